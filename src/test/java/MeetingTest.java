/** The promises 1 to 5, 12 and 13: a new object, delegates, the quorum, the buffer, the time. */
public final class MeetingTest {
    private MeetingTest() { }

    public static void main(String[] args) {
        promise1();
        promise2();
        promise3();
        promise4();
        quorumIsAtLeastThePercentage();
        promise5();
        promise12();
        promise13();
        Checks.finish();
    }

    private static void promise1() {
        AssemblyChair chair = new AssemblyChair();
        int[] atFirst = {0, 1, 0, 0, 0, 0, 0, 0, 0, 0, 0, -5, 0, 0, 0, 0, 0, 0, 0};
        for (int what = 0; what < atFirst.length; what++) {
            Checks.due("new: count " + what, chair.count(what), atFirst[what]);
        }
        Checks.due("new: pending", chair.pending(-1, 0), 0);
        Checks.due("new: entries", chair.entry(-1, 0), 0);
        Checks.due("new: vote", chair.vote(0), Halls.STATE);
        Checks.due("new: snapshot", chair.undo(), Halls.STATE);
        Checks.due("new: row", chair.element(0, 0), AssemblyChair.NO);
        Checks.due("new: resolution", chair.resolution(0, 0), Halls.NONE);
        Checks.due("new: the first percentage", chair.quorum(0), 50);
        Checks.due("new: no quorum without delegates", chair.count(5), 0);
        Checks.due("new: the buffer is empty", chair.clause(7), 1);
    }

    private static void promise2() {
        AssemblyChair chair = new AssemblyChair();
        Checks.due("weight 0", chair.delegate(0), Halls.BAD);
        Checks.due("weight 10", chair.delegate(10), Halls.BAD);
        Checks.due("weight of the least int", chair.delegate(Integer.MIN_VALUE), Halls.BAD);
        for (int i = 0; i < 12; i++) {
            Checks.due("the delegate's number", chair.delegate(i == 0 ? 9 : 1), i);
        }
        Checks.due("a thirteenth", chair.delegate(1), Halls.FULL);
        Checks.due("a thirteenth of weight 10", chair.delegate(10), Halls.BAD);
        Checks.due("delegates", chair.count(2), 12);
        Checks.due("all are present", chair.count(3), 20);
        Checks.due("the weight of all", chair.count(4), 20);
    }

    private static void promise3() {
        AssemblyChair chair = Halls.with(5, 4);
        Checks.due("no such delegate", chair.presence(2, 0), Halls.NONE);
        Checks.due("no such delegate, below", chair.presence(-1, 0), Halls.NONE);
        Checks.due("no such delegate and a bad on", chair.presence(2, 2), Halls.NONE);
        Checks.due("a bad on", chair.presence(1, 2), Halls.BAD);
        Checks.due("a bad on, below", chair.presence(1, -1), Halls.BAD);
        Checks.due("goes", chair.presence(1, 0), 1);
        Checks.due("is gone", chair.count(3), 5);
        Checks.due("all the same", chair.count(4), 9);
        Checks.due("goes again", chair.presence(1, 0), 0);
        Checks.due("comes", chair.presence(1, 1), 0);
        Checks.due("comes again", chair.presence(1, 1), 1);
        Checks.due("is here", chair.count(3), 9);
        chair.presence(0, 0);
        Checks.due("the other alone", chair.count(3), 4);
    }

    private static void promise4() {
        AssemblyChair chair = Halls.with(1);
        Checks.due("percentage 101", chair.quorum(101), Halls.BAD);
        Checks.due("percentage -1", chair.quorum(-1), Halls.BAD);
        Checks.due("the percentage at first", chair.quorum(100), 50);
        Checks.due("all that is needed is here", chair.count(5), 1);
        Checks.due("the percentage before", chair.quorum(0), 100);
        chair.presence(0, 0);
        Checks.due("none is needed", chair.count(5), 1);
        Checks.due("the percentage before that", chair.quorum(1), 0);
        Checks.due("one is needed", chair.count(5), 0);
    }

    private static void quorumIsAtLeastThePercentage() {
        AssemblyChair chair = Halls.with(5, 5);
        chair.presence(1, 0);
        Checks.due("half of it", chair.count(5), 1);
        chair.quorum(51);
        Checks.due("a little less", chair.count(5), 0);
        AssemblyChair thirds = Halls.with(1, 1, 1);
        thirds.presence(2, 0);
        thirds.quorum(66);
        Checks.due("two of three are 66 of 100", thirds.count(5), 1);
        thirds.quorum(67);
        Checks.due("two of three are not 67 of 100", thirds.count(5), 0);
    }

    private static void promise5() {
        AssemblyChair chair = Halls.with(1);
        Checks.due("clause -1", chair.clause(-1), Halls.BAD);
        Checks.due("clause 100", chair.clause(100), Halls.BAD);
        for (int i = 1; i <= 8; i++) {
            Checks.due("clauses", chair.clause(i == 1 ? 0 : 100 - i), i);
        }
        Checks.due("a ninth", chair.clause(5), Halls.FULL);
        Checks.due("a ninth that is bad", chair.clause(100), Halls.BAD);
        chair.move(0, 0, 0, 0, 0);
        Checks.due("its text", Halls.textOf(chair, 0), 0, 98, 97, 96, 95, 94, 93, 92);
        Checks.due("the buffer was emptied", chair.clause(99), 1);
    }

    private static void promise12() {
        AssemblyChair chair = new AssemblyChair();
        Checks.due("0 minutes", chair.pass(0), Halls.BAD);
        Checks.due("-1 minutes", chair.pass(-1), Halls.BAD);
        Checks.due("501 minutes", chair.pass(501), Halls.BAD);
        Checks.due("the most minutes of all", chair.pass(Integer.MAX_VALUE), Halls.BAD);
        Checks.due("one minute", chair.pass(1), 1);
        for (int i = 1; i < 20; i++) {
            Checks.due("500 minutes", chair.pass(500), 1 + 500 * i);
        }
        Checks.due("to 10001", chair.pass(500), Halls.FULL);
        Checks.due("501 at the end", chair.pass(501), Halls.BAD);
        Checks.due("to 9999", chair.pass(498), 9999);
        Checks.due("past 9999", chair.pass(1), Halls.FULL);
        Checks.due("the minute", chair.count(0), 9999);
    }

    private static void promise13() {
        AssemblyChair chair = Halls.with(1);
        Checks.due("is open", chair.open(), Halls.STATE);
        chair.pass(17);
        Halls.carry(chair, 9);
        Checks.due("is closed", chair.count(1), 0);
        chair.pass(1);
        Checks.due("opens", chair.open(), 18);
        Checks.due("is open again", chair.count(1), 1);
        Checks.due("opens once", chair.open(), Halls.STATE);
    }
}
