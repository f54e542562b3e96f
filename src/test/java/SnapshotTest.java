import java.util.List;

/** The promises 28 and 29: the snapshot. */
public final class SnapshotTest {
    private SnapshotTest() { }

    public static void main(String[] args) {
        promise28();
        promise29();
        containsEverything();
        theRowsAreNotInIt();
        Checks.finish();
    }

    private static void promise28() {
        AssemblyChair chair = Halls.with(1);
        Checks.due("no questions", chair.image(), 0);
        Halls.moveMain(chair, 1);
        Checks.due("one", chair.image(), 1);
        Halls.carry(chair, 2, 2, 0, 5);
        Checks.due("one, again", chair.image(), 1);
        Halls.carry(chair, 2, 2, 0, 6);
        chair.undo();
        Checks.due("in place of the earlier one", chair.text(0, 0), 5);
    }

    private static void promise29() {
        AssemblyChair chair = Halls.withQuestion(1, 2);
        Checks.due("none", chair.undo(), Halls.STATE);
        chair.image();
        chair.divide(1);
        Checks.due("two", chair.count(6), 2);
        Checks.due("one", chair.undo(), 1);
        Checks.due("its text", Halls.textOf(chair, 0), 1, 2);
        Halls.adopt(chair);
        Checks.due("it stays", chair.undo(), 1);
        Checks.due("pending again", chair.question(0, 0), 0);
        Checks.due("and stays", chair.undo(), 1);
    }

    /** Something of every kind that a meeting holds. */
    private static AssemblyChair fullMeeting() {
        AssemblyChair chair = Halls.with(3, 2, 1);
        Halls.moveMain(chair, 1, 2);
        chair.divide(1);
        Halls.adopt(chair);
        Halls.carry(chair, 3, 2);
        Halls.moveMain(chair, 4);
        Halls.carry(chair, 4, 5);
        Halls.moveMain(chair, 5);
        Halls.carry(chair, 7);
        Halls.moveMain(chair, 6);
        Halls.carry(chair, 5, 9);
        Halls.move(chair, 7);
        Halls.reject(chair);
        chair.speak(0);
        Halls.move(chair, 2, 0, 0, 8);
        Halls.move(chair, 2, 2, 0, 9);
        chair.clause(50);
        chair.clause(51);
        chair.presence(1, 0);
        chair.quorum(30);
        return chair;
    }

    private static void changeEverything(AssemblyChair chair) {
        Halls.adopt(chair);
        Halls.adopt(chair);
        Halls.carry(chair, 6);
        chair.divide(1);
        Halls.adopt(chair);
        Halls.carry(chair, 11);
        Halls.reject(chair);
        Halls.carry(chair, 9);
        chair.open();
        chair.pass(5);
        chair.next();
        Halls.carry(chair, 2, 2, 0, 33);
        Halls.adopt(chair);
        chair.report(2);
        chair.speak(0);
        Halls.adopt(chair);
        Halls.carry(chair, 10);
        Halls.adopt(chair);
        chair.clause(52);
        chair.move(0, 0, 0, 0, 0);
        chair.quorum(10);
        chair.presence(2, 0);
        chair.delegate(4);
        Halls.carry(chair, 9);
    }

    private static void containsEverything() {
        AssemblyChair chair = fullMeeting();
        List<Long> before = Halls.meetingOf(chair);
        int questions = chair.image();
        changeEverything(chair);
        Checks.due("undone", chair.undo(), questions);
        Checks.due("all is as it was", Halls.meetingOf(chair).equals(before) ? 1 : 0, 1);
        AssemblyChair other = fullMeeting();
        changeEverything(chair);
        changeEverything(other);
        boolean isAlike = Halls.meetingOf(chair).equals(Halls.meetingOf(other));
        Checks.due("it goes on as if nothing had been", isAlike ? 1 : 0, 1);
        chair.undo();
        Checks.due("the percentage", chair.quorum(30), 30);
        Checks.due("the buffer", chair.clause(1), 3);
        Checks.due("rule 9", Halls.rule(chair, 7), 9);
        Checks.due("the speeches", chair.speak(0), 2);
    }

    private static void theRowsAreNotInIt() {
        AssemblyChair chair = Halls.with(3, 2);
        chair.image();
        Halls.carry(chair, 8, 1);
        chair.store(1, 0, 1);
        chair.undo();
        Checks.due("the row stays", chair.element(1, 0), 3);
        Checks.due("the decision does not", chair.store(1, 0, 1), Halls.STATE);
    }
}
