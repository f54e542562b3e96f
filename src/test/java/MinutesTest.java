/** The promises 19 to 21 and 23: resolutions, the minutes, what is found from them, counts. */
public final class MinutesTest {
    private MinutesTest() { }

    public static void main(String[] args) {
        promise19();
        promise20();
        promise20Kept();
        promise21();
        entriesAreAtTheirMinutes();
        promise23();
        Checks.finish();
    }

    private static void promise19() {
        AssemblyChair chair = Halls.with(1);
        Checks.due("none", chair.resolution(0, -1), Halls.NONE);
        Halls.moveMain(chair, 1);
        Halls.reject(chair);
        Halls.moveMain(chair, 2, 0);
        Halls.adopt(chair);
        Halls.moveMain(chair, 4);
        Halls.adopt(chair);
        Checks.due("the first", Halls.resolutionOf(chair, 0), 2, 0);
        Checks.due("its question", chair.resolution(0, -2), 1);
        Checks.due("the second", Halls.resolutionOf(chair, 1), 4);
        Checks.due("its question", chair.resolution(1, -2), 2);
        Checks.due("its length", chair.resolution(1, -1), 1);
        Checks.due("position 1", chair.resolution(1, 1), Halls.NONE);
        Checks.due("position -3", chair.resolution(1, -3), Halls.NONE);
        Checks.due("resolution 2", chair.resolution(2, -2), Halls.NONE);
        Checks.due("resolution -1", chair.resolution(-1, 0), Halls.NONE);
        Checks.due("resolution 99", chair.resolution(99, -2), Halls.NONE);
    }

    private static void promise20() {
        AssemblyChair chair = Halls.withQuestion(1, 2, 3);
        Checks.due("none", chair.replayed(0), Halls.NONE);
        Checks.due("none, below", chair.replayed(-1), Halls.NONE);
        Halls.move(chair, 2, 0, 0, 9);
        Halls.carry(chair, 2, 0, 3, 0);
        Halls.adopt(chair);
        chair.divide(2);
        Halls.carry(chair, 2, 1, 0, 0);
        Halls.adopt(chair);
        Halls.carry(chair, 2, 2, 0, 50);
        Halls.adopt(chair);
        Checks.due("the first", Halls.resolutionOf(chair, 0), 2);
        Checks.due("is found", chair.replayed(0), 1);
        Checks.due("the part", Halls.resolutionOf(chair, 1), 50, 9);
        Checks.due("is found", chair.replayed(1), 1);
        Checks.due("no third", chair.replayed(2), Halls.NONE);
        Halls.carry(chair, 11);
        Halls.carry(chair, 2, 0, 2, 7);
        Halls.adopt(chair);
        Checks.due("amended again", Halls.resolutionOf(chair, 1), 50, 9, 7);
        Checks.due("is found again", chair.replayed(1), 1);
    }

    private static void promise20Kept() {
        AssemblyChair chair = Halls.withQuestion(1);
        Halls.adopt(chair);
        Halls.moveMain(chair, 1);
        for (int i = 3; i < 120; i++) {
            chair.speak(0);
        }
        Checks.due("120 entries", chair.entry(-1, 0), 120);
        Checks.due("all are kept", chair.replayed(0), 1);
        chair.speak(0);
        Checks.due("one is not", chair.replayed(0), Halls.NOTHING);
        Checks.due("an error is ahead", chair.replayed(1), Halls.NONE);
    }

    private static void promise21() {
        AssemblyChair chair = Halls.with(1, 1);
        Checks.due("none", chair.entry(-1, 0), 0);
        Checks.due("no entry 0", chair.entry(0, 0), Halls.NONE);
        chair.pass(4);
        chair.clause(1);
        chair.move(1, 0, 0, 0, 0);
        chair.move(0, 7, 0, 0, 0);
        chair.decide(0, 3);
        chair.move(0, 2, 2, 0, 8);
        chair.decide(3, 0);
        chair.decide(3, 0);
        int[][] due = {{4, 0, 1, 0}, {4, 0, 0, 7}, {4, 2, 0, 7}, {4, 0, 0, 2}, {4, 1, 0, 2},
            {4, 1, 1, 0}};
        for (int i = 0; i < due.length; i++) {
            Checks.due("entry " + i, Halls.entryOf(chair, i), due[i]);
        }
        Checks.due("their number", chair.entry(-1, 77), 6);
        Checks.due("entry 6", chair.entry(6, 0), Halls.NONE);
        Checks.due("entry -2", chair.entry(-2, 0), Halls.NONE);
        Checks.due("what 4", chair.entry(0, 4), Halls.NONE);
        Checks.due("what -1", chair.entry(0, -1), Halls.NONE);
        chair.clause(1);
        chair.move(0, 0, 0, 0, 0);
        for (int i = 0; i < 130; i++) {
            chair.speak(0);
        }
        Checks.due("all are counted", chair.entry(-1, 0), 137);
        Checks.due("the last kept", Halls.entryOf(chair, 119), 4, 3, 0, 113);
        Checks.due("the next is not", chair.entry(120, 0), Halls.NONE);
    }

    private static void entriesAreAtTheirMinutes() {
        AssemblyChair chair = Halls.with(1);
        Halls.carry(chair, 8, 10);
        Checks.due("a recess is adopted at its beginning", Halls.entryOf(chair, 1), 0, 1, 0, 8);
        Halls.move(chair, 9);
        Checks.due("what is next is at its end", Halls.entryOf(chair, 2), 10, 0, 0, 9);
    }

    private static void promise23() {
        AssemblyChair chair = Halls.with(9, 4, 1);
        chair.presence(2, 0);
        chair.pass(6);
        Halls.moveMain(chair, 1, 2);
        chair.divide(1);
        chair.decide(1, 0);
        Halls.move(chair, 3, 1);
        chair.decide(1, 0);
        Halls.moveMain(chair, 3);
        Halls.move(chair, 7);
        chair.decide(1, 0);
        Halls.moveMain(chair, 3);
        Halls.move(chair, 1);
        Halls.move(chair, 4, 9);
        chair.decide(1, 0);
        Halls.moveMain(chair, 3);
        Halls.move(chair, 1);
        chair.decide(1, 0);
        Halls.moveMain(chair, 4);
        Halls.move(chair, 5, 12);
        chair.decide(1, 0);
        Halls.move(chair, 7);
        chair.decide(2, 1);
        Halls.move(chair, 6);
        int[] due = {6, 1, 3, 13, 14, 1, 6, 1, 1, 1, 1, 12, 0, 13, 6, 1, 6, 1, 1};
        for (int what = 0; what < due.length; what++) {
            Checks.due("count " + what, chair.count(what), due[what]);
        }
        chair.decide(1, 0);
        Checks.due("debate is closed", chair.count(12), 1);
        Checks.due("what 19", chair.count(19), Halls.NONE);
        Checks.due("what -1", chair.count(-1), Halls.NONE);
    }
}
