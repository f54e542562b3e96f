/** The promise 8: speeches, limits and the end of debate. */
public final class DebateTest {
    private DebateTest() { }

    public static void main(String[] args) {
        whoSpeaks();
        limits();
        aNewLimitDoesNotOpenDebate();
        theLastSpeechClosesDebate();
        closing();
        startsAnew();
        Checks.finish();
    }

    private static void whoSpeaks() {
        AssemblyChair chair = Halls.with(2, 1, 1);
        Checks.due("no such delegate", chair.speak(3), Halls.NONE);
        Checks.due("no such delegate, below", chair.speak(-1), Halls.NONE);
        Checks.due("no question", chair.speak(0), Halls.STATE);
        Halls.move(chair, 8, 5);
        Checks.due("a recess is no question", chair.speak(0), Halls.STATE);
        chair.decide(0, 1);
        Halls.moveMain(chair, 1);
        Checks.due("a speech", chair.speak(1), 1);
        Checks.due("another one's", chair.speak(0), 1);
        Checks.due("a second", chair.speak(1), 2);
        chair.presence(1, 0);
        Checks.due("an absent one", chair.speak(1), Halls.STATE);
        chair.quorum(100);
        Checks.due("no quorum", chair.speak(0), Halls.STATE);
        chair.quorum(50);
        Halls.move(chair, 7);
        Checks.due("whatever lies on it", chair.speak(0), 2);
        Halls.move(chair, 9);
        chair.decide(1, 0);
        Checks.due("closed", chair.speak(0), Halls.STATE);
        chair.open();
        chair.next();
        Checks.due("taken up", chair.speak(0), 3);
        int last = chair.entry(-1, 0) - 1;
        Checks.due("the entry", Halls.entryOf(chair, last), 0, 3, 0, 3);
    }

    private static void limits() {
        AssemblyChair chair = Halls.withQuestion(1);
        Checks.due("no limit", chair.count(11), Halls.NOTHING);
        chair.speak(0);
        Checks.due("still none", chair.count(11), Halls.NOTHING);
        Halls.carry(chair, 5, 2);
        Checks.due("two are left", chair.count(11), 2);
        Checks.due("one", chair.speak(0), 2);
        Checks.due("one is left", chair.count(11), 1);
        Checks.due("debate is open", chair.count(12), 0);
        Halls.carry(chair, 5, 3);
        Checks.due("in place of the earlier one", chair.count(11), 3);
        chair.speak(0);
        chair.speak(0);
        chair.speak(0);
        Checks.due("none is left", chair.count(11), 0);
        Checks.due("debate is closed", chair.count(12), 1);
        Checks.due("no speech", chair.speak(0), Halls.STATE);
        Checks.due("none was used", chair.count(11), 0);
    }

    /** A meeting with a motion to limit debate on top and no speech left of an earlier limit. */
    private static AssemblyChair withUsedUpLimit(int newLimit) {
        AssemblyChair chair = Halls.withQuestion(1, 2);
        Halls.carry(chair, 5, 1);
        Halls.move(chair, 5, newLimit);
        chair.speak(0);
        return chair;
    }

    /** The end of debate stays until a question comes up or is taken up (issue 5). */
    private static void aNewLimitDoesNotOpenDebate() {
        AssemblyChair chair = withUsedUpLimit(2);
        Checks.due("closed", chair.count(12), 1);
        Halls.adopt(chair);
        Checks.due("two are left", chair.count(11), 2);
        Checks.due("closed all the same", chair.count(12), 1);
        Checks.due("no speech", chair.speak(0), Halls.STATE);
        Checks.due("none was used", chair.count(11), 2);
        Checks.due("no motion of 1 to 6", chair.move(0, 6, 0, 0, 0), -108);
        Checks.due("but that of 7", Halls.carry(chair, 7), 1);
        Halls.carry(chair, 10);
        isAnew("taken up after a used up limit", chair);
        Checks.due("a speech then", chair.speak(0), 2);
    }

    private static void theLastSpeechClosesDebate() {
        AssemblyChair rejected = withUsedUpLimit(2);
        Halls.reject(rejected);
        Checks.due("none is left", rejected.count(11), 0);
        Checks.due("closed", rejected.count(12), 1);

        AssemblyChair divided = withUsedUpLimit(2);
        Halls.adopt(divided);
        divided.divide(1);
        Checks.due("closed after a division", divided.count(12), 1);
        Halls.adopt(divided);
        isAnew("next part after a used up limit", divided);

        AssemblyChair restored = Halls.withQuestion(1);
        Halls.carry(restored, 5, 1);
        restored.image();
        restored.speak(0);
        restored.undo();
        Checks.due("open again with the snapshot", restored.count(12), 0);
        restored.speak(0);
        Checks.due("closed again", restored.count(12), 1);
        restored.image();
        restored.undo();
        Checks.due("closed in the snapshot", restored.count(12), 1);
    }

    private static void closing() {
        AssemblyChair chair = Halls.withQuestion(1);
        Halls.carry(chair, 5, 4);
        Halls.move(chair, 5, 7);
        Halls.carry(chair, 6);
        Checks.due("closed", chair.count(12), 1);
        Checks.due("speeches are left all the same", chair.count(11), 4);
        Checks.due("no speech", chair.speak(0), Halls.STATE);
        Halls.adopt(chair);
        Checks.due("a limit does not open it", chair.count(12), 1);
        Checks.due("but is set", chair.count(11), 7);
        Halls.carry(chair, 7);
        Checks.due("no question: not closed", chair.count(12), 0);
        Checks.due("no question: no limit", chair.count(11), Halls.NOTHING);
    }

    private static void closeDebate(AssemblyChair chair) {
        Halls.carry(chair, 5, 4);
        Halls.carry(chair, 6);
    }

    private static void isAnew(String how, AssemblyChair chair) {
        Checks.due(how + ": not closed", chair.count(12), 0);
        Checks.due(how + ": no limit", chair.count(11), Halls.NOTHING);
        Checks.due(how + ": a question", chair.pending(0, 0), 0);
    }

    private static void startsAnew() {
        AssemblyChair chair = Halls.withQuestion(1, 2);
        closeDebate(chair);
        Halls.carry(chair, 7);
        Halls.carry(chair, 10);
        isAnew("table", chair);
        Halls.move(chair, 3, 0);
        closeDebate(chair);
        Halls.adopt(chair);
        chair.report(0);
        isAnew("committee", chair);
        Halls.move(chair, 4, 1);
        closeDebate(chair);
        Halls.adopt(chair);
        chair.pass(1);
        chair.next();
        isAnew("minute", chair);
        chair.divide(1);
        closeDebate(chair);
        Halls.adopt(chair);
        isAnew("next part", chair);
        closeDebate(chair);
        Halls.adopt(chair);
        Halls.carry(chair, 11);
        isAnew("reconsidered", chair);
        closeDebate(chair);
        Halls.reject(chair);
        Halls.moveMain(chair, 1);
        isAnew("a new question", chair);
    }
}
