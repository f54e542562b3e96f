/** The promises 24 to 27: rows of votes. */
public final class RowsTest {
    private static final int MOST = Integer.MAX_VALUE, LEAST = Integer.MIN_VALUE;

    private RowsTest() { }

    public static void main(String[] args) {
        promise24();
        atMostForty();
        promise25();
        promise26();
        promise27();
        Checks.finish();
    }

    /** A recess is decided by these votes. */
    private static void vote(AssemblyChair chair, int yes, int no) {
        chair.move(0, 8, 1, 0, 0);
        chair.decide(yes, no);
    }

    private static void isRow(String what, AssemblyChair chair, int row, long... due) {
        for (int i = 0; i < due.length; i++) {
            Checks.due(what + " at " + i, chair.element(row, i), due[i]);
        }
        Checks.due(what + " ends", chair.element(row, due.length), AssemblyChair.NO);
    }

    private static long bits(float share) {
        return Float.floatToIntBits(share);
    }

    private static void promise24() {
        AssemblyChair chair = Halls.with(3, 4);
        Checks.due("nothing was decided", chair.store(0, 0, 1), Halls.STATE);
        Checks.due("exact 2", chair.store(0, 0, 2), Halls.BAD);
        Checks.due("exact -1", chair.store(0, 0, -1), Halls.BAD);
        Checks.due("row 4", chair.store(4, 0, 2), Halls.NONE);
        Checks.due("row -1", chair.store(-1, 0, 0), Halls.NONE);
        Checks.due("what 2", chair.store(0, 2, 0), Halls.NONE);
        Checks.due("what -1", chair.store(0, -1, 0), Halls.NONE);
        vote(chair, 1, 2);
        vote(chair, 0, 0);
        vote(chair, 3, 0);
        Checks.due("yes", chair.store(0, 0, 1), 3);
        isRow("yes", chair, 0, 3, 0, 7);
        Checks.due("no", chair.store(1, 1, 1), 3);
        isRow("no", chair, 1, 4, 0, 0);
        Checks.due("yes as floats", chair.store(2, 0, 0), 3);
        isRow("yes as floats", chair, 2, bits(3f / 7f), 0, bits(1f));
        Checks.due("no as floats", chair.store(3, 1, 0), 3);
        isRow("no as floats", chair, 3, bits(4f / 7f), 0, 0);
        vote(chair, 2, 0);
        Checks.due("in its place", chair.store(0, 0, 0), 4);
        isRow("in its place", chair, 0, bits(3f / 7f), 0, bits(1f), bits(1f));
    }

    private static void atMostForty() {
        AssemblyChair chair = Halls.with(1, 2);
        for (int i = 0; i < 41; i++) {
            vote(chair, i == 40 ? 3 : i == 39 ? 2 : 1, 0);
        }
        Checks.due("forty", chair.store(0, 0, 1), 40);
        Checks.due("the fortieth", chair.element(0, 39), 2);
        Checks.due("no 41st", chair.element(0, 40), AssemblyChair.NO);
    }

    private static void promise25() {
        AssemblyChair chair = Halls.with(3, 4);
        vote(chair, 1, 2);
        chair.store(3, 0, 1);
        vote(chair, 2, 1);
        vote(chair, 3, 0);
        chair.store(0, 0, 1);
        chair.store(1, 1, 1);
        Checks.due("row 4", chair.copy(0, 4, 0), Halls.NONE);
        Checks.due("row -1", chair.copy(-1, 0, 0), Halls.NONE);
        Checks.due("to a missing row", chair.copy(0, 2, 0), Halls.STATE);
        Checks.due("from a missing row", chair.copy(2, 0, -1), Halls.STATE);
        Checks.due("below 0", chair.copy(0, 1, -1), Halls.BAD);
        Checks.due("far below", chair.copy(0, 1, LEAST), Halls.BAD);
        Checks.due("above both", chair.copy(0, 1, 4), Halls.BAD);
        Checks.due("far above", chair.copy(0, 1, MOST), Halls.BAD);
        Checks.due("above the other", chair.copy(0, 3, 2), Halls.BAD);
        Checks.due("above the one", chair.copy(3, 0, 2), Halls.BAD);
        chair.store(2, 0, 0);
        Checks.due("ints and floats", chair.copy(0, 2, 1), Halls.FULL);
        Checks.due("floats and ints", chair.copy(2, 0, 1), Halls.FULL);
        Checks.due("bad is ahead of full", chair.copy(2, 0, 4), Halls.BAD);
        Checks.due("none of them", chair.copy(2, 0, 0), 0);
        isRow("as it was", chair, 1, 4, 3, 0);
        Checks.due("two are copied", chair.copy(0, 1, 2), 2);
        isRow("two are copied", chair, 1, 3, 4, 0);
        Checks.due("one is new", chair.copy(0, 1, 3), 1);
        isRow("all are copied", chair, 1, 3, 4, 7);
        Checks.due("onto itself", chair.copy(0, 0, 3), 0);
        isRow("the first one", chair, 0, 3, 4, 7);
    }

    private static void promise26() {
        AssemblyChair chair = Halls.with(3, 4);
        vote(chair, 1, 2);
        chair.store(0, 0, 1);
        vote(chair, 2, 1);
        chair.store(1, 0, 0);
        Checks.due("row 4", chair.again(4, 0), Halls.NONE);
        Checks.due("to row 4", chair.again(0, 4), Halls.NONE);
        Checks.due("to row -1", chair.again(2, -1), Halls.NONE);
        Checks.due("missing", chair.again(2, 0), Halls.STATE);
        Checks.due("a new one", chair.again(1, 2), 2);
        isRow("a new one", chair, 2, bits(3f / 7f), bits(4f / 7f));
        Checks.due("of another kind", chair.again(0, 1), 1);
        isRow("of another kind", chair, 1, 3);
        isRow("a row of its own", chair, 2, bits(3f / 7f), bits(4f / 7f));
        Checks.due("its kind", chair.copy(0, 1, 1), 0);
        Checks.due("the same row", chair.again(2, 2), 2);
        isRow("the same row", chair, 2, bits(3f / 7f), bits(4f / 7f));
        chair.store(0, 1, 1);
        isRow("changed alone", chair, 1, 3);
    }

    private static void promise27() {
        AssemblyChair chair = Halls.with(3, 4);
        Checks.due("missing", chair.element(0, 0), AssemblyChair.NO);
        Checks.due("row 4", chair.element(4, 0), AssemblyChair.NO);
        Checks.due("row -1", chair.element(-1, 0), AssemblyChair.NO);
        vote(chair, 3, 0);
        chair.store(0, 0, 1);
        Checks.due("an int", chair.element(0, 0), 7);
        chair.store(0, 0, 0);
        Checks.due("a float", chair.element(0, 0), 0x3f800000L);
        Checks.due("index 1", chair.element(0, 1), AssemblyChair.NO);
        Checks.due("index -1", chair.element(0, -1), AssemblyChair.NO);
        Checks.due("far indices", chair.element(0, LEAST), AssemblyChair.NO);
    }
}
