/** The promises 7 and 22: decisions and what comes of them. */
public final class DecisionsTest {
    private DecisionsTest() { }

    public static void main(String[] args) {
        errors();
        weights();
        twoThirds();
        promise22();
        sharesAreFloats();
        mainMotions();
        dropping();
        amendments();
        secondaryAmendments();
        puttingAside();
        staleMotions();
        twoInACommittee();
        recesses();
        adjourning();
        theTable();
        reconsidering();
        reconsideringMovesResolutions();
        nextParts();
        Checks.finish();
    }

    private static void errors() {
        AssemblyChair chair = Halls.with(1, 1);
        Checks.due("nothing pending", chair.decide(0, 0), Halls.STATE);
        Checks.due("no such delegate", chair.decide(4, 0), Halls.BAD);
        Halls.moveMain(chair, 1);
        Checks.due("no such delegate, yes", chair.decide(4, 0), Halls.BAD);
        Checks.due("no such delegate, no", chair.decide(0, 4), Halls.BAD);
        Checks.due("all bits", chair.decide(-1, 0), Halls.BAD);
        Checks.due("the sign", chair.decide(0, Integer.MIN_VALUE), Halls.BAD);
        Checks.due("both", chair.decide(3, 2), Halls.BAD);
        chair.quorum(100);
        chair.presence(1, 0);
        Checks.due("no quorum", chair.decide(1, 0), Halls.STATE);
        Checks.due("no quorum and both", chair.decide(1, 1), Halls.BAD);
        Checks.due("nothing was decided", chair.vote(0), Halls.STATE);
        chair.move(0, 9, 0, 0, 0);
        Checks.due("to adjourn needs none", chair.decide(1, 0), 1);
        chair.open();
        chair.move(0, 8, 5, 0, 0);
        Checks.due("a recess needs none", chair.decide(1, 0), 1);
    }

    private static void weights() {
        AssemblyChair chair = Halls.with(3, 2, 1);
        Halls.moveMain(chair, 1);
        Checks.due("more weight", chair.decide(1, 2), 1);
        Halls.moveMain(chair, 1);
        Checks.due("a tie", chair.decide(1, 6), 0);
        Halls.moveMain(chair, 1);
        Checks.due("no votes at all", chair.decide(0, 0), 0);
        Halls.moveMain(chair, 1);
        chair.presence(0, 0);
        Checks.due("absent ones do not count", chair.decide(1, 4), 0);
        Checks.due("their weight", chair.vote(0), 0);
        chair.presence(0, 1);
        Halls.moveMain(chair, 1);
        Checks.due("present ones do", chair.decide(1, 4), 1);
    }

    private static void twoThirds() {
        for (int kind = 5; kind <= 6; kind++) {
            AssemblyChair chair = Halls.with(4, 2, 3);
            Halls.moveMain(chair, 1);
            int a = kind == 5 ? 3 : 0;
            chair.move(0, kind, a, 0, 0);
            Checks.due("less than twice, " + kind, chair.decide(1, 4), 0);
            Halls.moveMain(chair, 1);
            chair.decide(0, 0);
            Halls.moveMain(chair, 1);
            chair.move(0, kind, a, 0, 0);
            Checks.due("no votes, " + kind, chair.decide(0, 0), 0);
            chair.decide(0, 0);
            Halls.moveMain(chair, 1);
            chair.move(0, kind, a, 0, 0);
            Checks.due("twice, " + kind, chair.decide(1, 2), 1);
        }
        AssemblyChair chair = Halls.with(1);
        Halls.moveMain(chair, 1);
        Halls.move(chair, 6);
        Checks.due("all for it", chair.decide(1, 0), 1);
    }

    private static void promise22() {
        AssemblyChair chair = Halls.with(5, 3, 2, 1, 4);
        Checks.due("nothing decided, no such what", chair.vote(6), Halls.STATE);
        chair.presence(3, 0);
        Halls.moveMain(chair, 1);
        Halls.move(chair, 7);
        chair.decide(2 | 8, 1);
        int[] due = {3, 5, 6, 0, 7, Float.floatToIntBits(3f / 8f)};
        for (int what = 0; what < 6; what++) {
            Checks.due("vote " + what, chair.vote(what), due[what]);
        }
        chair.presence(1, 0);
        Checks.due("present then", chair.vote(2), 6);
        Checks.due("vote 6", chair.vote(6), Halls.NONE);
        Checks.due("vote -1", chair.vote(-1), Halls.NONE);
        chair.decide(1, 0);
        Checks.due("adopted", chair.vote(3), 1);
        Checks.due("kind 0", chair.vote(4), 0);
        Checks.due("a whole share", chair.vote(5), 0x3f800000);
        Halls.moveMain(chair, 1);
        chair.decide(0, 0);
        Checks.due("a share of none", chair.vote(5), 0);
        Checks.due("all were silent", chair.vote(2), 11);
    }

    private static void sharesAreFloats() {
        AssemblyChair chair = Halls.with(9, 9, 9, 9, 9, 9, 8, 7, 6, 4, 2, 1);
        chair.image();
        Halls.moveMain(chair, 1);
        for (int i = 0; i < 200; i++) {
            int yes = i * 2654435 & 0xfff;
            int no = i * 40503 >> 3 & 0xfff & ~yes;
            Halls.move(chair, 8, 1);
            chair.decide(yes, no);
            int all = chair.vote(0) + chair.vote(1);
            int due = all == 0 ? 0 : Float.floatToIntBits((float) chair.vote(0) / (float) all);
            Checks.due("share of " + chair.vote(0) + " in " + all, chair.vote(5), due);
        }
    }

    private static void mainMotions() {
        AssemblyChair chair = Halls.withQuestion(4, 5);
        Halls.adopt(chair);
        Checks.due("a resolution", chair.question(0, 0), 4);
        Checks.due("its number", chair.question(0, 1), 0);
        Checks.due("its text", Halls.resolutionOf(chair, 0), 4, 5);
        Checks.due("nothing is pending", chair.pending(-1, 0), 0);
        Halls.moveMain(chair, 6);
        Halls.reject(chair);
        Checks.due("rejected", chair.question(1, 0), 5);
        Checks.due("no number", chair.question(1, 1), Halls.NOTHING);
        Checks.due("one resolution", chair.count(7), 1);
    }

    private static void dropping() {
        AssemblyChair chair = Halls.withQuestion(1);
        Halls.move(chair, 1);
        Halls.reject(chair);
        Checks.due("not dropped", Halls.kindsPending(chair), 0);
        Halls.carry(chair, 8, 1);
        Halls.carry(chair, 1);
        Checks.due("dropped", chair.question(0, 0), 6);
        Checks.due("the main motion is pending no more", chair.pending(-1, 0), 0);
        Checks.due("main motions dropped", chair.count(17), 1);
        Checks.due("nothing was rejected but the first", chair.count(15), 1);
    }

    private static void amendments() {
        AssemblyChair chair = Halls.withQuestion(10, 20, 30);
        Halls.carry(chair, 2, 0, 1, 15);
        Checks.due("inserted", Halls.textOf(chair, 0), 10, 15, 20, 30);
        Halls.carry(chair, 2, 0, 4, 40);
        Checks.due("inserted last", Halls.textOf(chair, 0), 10, 15, 20, 30, 40);
        Halls.carry(chair, 2, 1, 0, 0);
        Checks.due("struck out", Halls.textOf(chair, 0), 15, 20, 30, 40);
        Halls.carry(chair, 2, 1, 3, 0);
        Checks.due("struck out last", Halls.textOf(chair, 0), 15, 20, 30);
        Halls.carry(chair, 2, 2, 1, 99);
        Checks.due("replaced", Halls.textOf(chair, 0), 15, 99, 30);
        Halls.move(chair, 2, 2, 1, 98);
        Halls.reject(chair);
        Checks.due("rejected", Halls.textOf(chair, 0), 15, 99, 30);
        Checks.due("adopted amendments", chair.question(0, 4), 5);
        Checks.due("the main motion is left", Halls.kindsPending(chair), 0);
    }

    private static void secondaryAmendments() {
        AssemblyChair chair = Halls.withQuestion(10, 20, 30);
        Halls.move(chair, 2, 2, 1, 15);
        Halls.carry(chair, 2, 0, 2, 0);
        Checks.due("another place", chair.pending(1, 3), 2);
        Halls.carry(chair, 2, 2, 0, 16);
        Checks.due("another clause", chair.pending(1, 4), 16);
        Checks.due("the form stays", chair.pending(1, 2), 2);
        Checks.due("the mover stays", chair.pending(1, 1), 0);
        Halls.move(chair, 2, 2, 0, 17);
        Halls.reject(chair);
        Checks.due("rejected", chair.pending(1, 4), 16);
        Checks.due("the text is as it was", Halls.textOf(chair, 0), 10, 20, 30);
        Checks.due("no primary one was adopted", chair.question(0, 4), 0);
        Halls.adopt(chair);
        Checks.due("adopted as it is", Halls.textOf(chair, 0), 10, 20, 16);
        Checks.due("one primary one was", chair.question(0, 4), 1);
    }

    private static void puttingAside() {
        AssemblyChair chair = Halls.withQuestion(10, 20);
        Halls.move(chair, 1);
        Halls.move(chair, 2, 0, 0, 5);
        Halls.carry(chair, 3, 2);
        Checks.due("referred", chair.question(0, 0), 1);
        Checks.due("to the committee", chair.question(0, 1), 2);
        Checks.due("nothing is pending", chair.pending(-1, 0), 0);
        Checks.due("its motions are", chair.count(16), 3);
        chair.report(2);
        Checks.due("all is pending again", Halls.kindsPending(chair), 0, 1, 2);
        Halls.carry(chair, 4, 60);
        Checks.due("postponed", chair.question(0, 0), 2);
        Checks.due("to the minute", chair.question(0, 1), 60);
        Checks.due("it waits", chair.count(9), 1);
        chair.pass(60);
        chair.next();
        Checks.due("all is pending once more", Halls.kindsPending(chair), 0, 1, 2);
        Halls.carry(chair, 7);
        Checks.due("on the table", chair.question(0, 0), 3);
        Checks.due("without a number", chair.question(0, 1), Halls.NOTHING);
        Halls.carry(chair, 10);
        Checks.due("all is pending from the table", Halls.kindsPending(chair), 0, 1, 2);
        Checks.due("a pending question", chair.question(0, 0), 0);
        Checks.due("has no number", chair.question(0, 1), Halls.NOTHING);
    }

    /** What a motion needs is looked at when it is made, not when it is decided. */
    private static void staleMotions() {
        AssemblyChair chair = Halls.withQuestion(10);
        Halls.move(chair, 4, 5);
        chair.pass(9);
        Halls.adopt(chair);
        Checks.due("it waits for a minute gone by", chair.question(0, 1), 5);
        Checks.due("that has come", chair.next(), 0);
        Halls.move(chair, 7);
        Halls.carry(chair, 9);
        chair.open();
        for (int i = 0; i < 3; i++) {
            Halls.moveMain(chair, 20 + i);
            Halls.carry(chair, 7);
        }
        chair.next();
        Checks.due("laid on a full table", Halls.adopt(chair), 1);
        Checks.due("four lie there", chair.count(8), 4);
        Halls.carry(chair, 10);
        Checks.due("the last is taken up", chair.text(0, 0), 10);
        Checks.due("it is pending", chair.question(0, 0), 0);
    }

    /** Plainest reading: nothing is lost, and what went there first is taken up first. */
    private static void twoInACommittee() {
        AssemblyChair chair = Halls.withQuestion(10);
        Halls.move(chair, 3, 1);
        Halls.carry(chair, 7);
        Halls.moveMain(chair, 20);
        Halls.carry(chair, 3, 1);
        Halls.carry(chair, 10);
        Checks.due("the committee has a question by now", Halls.adopt(chair), 1);
        Checks.due("one committee is busy", chair.count(10), 1);
        Checks.due("two motions", chair.count(16), 2);
        Checks.due("the first", chair.report(1), 1);
        Halls.reject(chair);
        Checks.due("the other", chair.report(1), 0);
        Halls.reject(chair);
        Checks.due("no more", chair.report(1), Halls.STATE);
    }

    private static void recesses() {
        AssemblyChair chair = Halls.withQuestion(10);
        chair.pass(3);
        Halls.move(chair, 6);
        Halls.carry(chair, 8, 40);
        Checks.due("the minutes pass", chair.count(0), 43);
        Checks.due("what is pending stays so", Halls.kindsPending(chair), 0, 6);
        Halls.move(chair, 8, 500);
        for (int i = 0; i < 19; i++) {
            chair.pass(500);
        }
        Halls.adopt(chair);
        Checks.due("up to the last minute", chair.count(0), 9999);
        Checks.due("and no further", chair.pass(1), Halls.FULL);
    }

    private static void adjourning() {
        AssemblyChair chair = Halls.withQuestion(10);
        chair.pass(8);
        Halls.move(chair, 5, 2);
        Halls.carry(chair, 9);
        Checks.due("closed", chair.count(1), 0);
        Checks.due("the question waits", chair.question(0, 0), 2);
        Checks.due("for this minute", chair.question(0, 1), 8);
        Checks.due("its motions wait", chair.count(16), 2);
        Checks.due("not while it is closed", chair.next(), Halls.STATE);
        chair.open();
        Checks.due("then it is taken up", chair.next(), 0);
        Checks.due("all of it", Halls.kindsPending(chair), 0, 5);
        AssemblyChair empty = Halls.with(1);
        Halls.carry(empty, 9);
        Checks.due("nothing waits", empty.count(9), 0);
        empty.open();
        Checks.due("nothing is taken up", empty.next(), Halls.NOTHING);
    }

    private static void theTable() {
        AssemblyChair chair = Halls.with(1);
        for (int i = 0; i < 3; i++) {
            Halls.moveMain(chair, 10 + i);
            Halls.carry(chair, 7);
        }
        Checks.due("three lie there", chair.count(8), 3);
        Halls.move(chair, 10);
        Halls.reject(chair);
        Checks.due("still", chair.count(8), 3);
        for (int i = 2; i >= 0; i--) {
            Halls.carry(chair, 10);
            Checks.due("the last one first", chair.question(i, 0), 0);
            Checks.due("the others lie there", chair.count(8), i);
            Halls.reject(chair);
        }
    }

    private static void reconsidering() {
        AssemblyChair chair = Halls.with(3, 2);
        chair.clause(7);
        chair.clause(8);
        chair.move(1, 0, 0, 0, 0);
        chair.move(0, 2, 2, 0, 9);
        chair.decide(1, 0);
        chair.decide(1, 0);
        Checks.due("a motion to reconsider", chair.move(0, 11, 0, 0, 0), 1);
        Checks.due("its kind", Halls.kindsPending(chair), 11);
        Checks.due("the question is still a resolution", chair.question(0, 0), 4);
        chair.decide(1, 0);
        Checks.due("it is pending again", Halls.kindsPending(chair), 0);
        Checks.due("with its mover", chair.pending(0, 1), 1);
        Checks.due("with its number", chair.question(0, 0), 0);
        Checks.due("with its text", Halls.textOf(chair, 0), 9, 8);
        Checks.due("the resolution is no more", chair.count(7), 0);
        Checks.due("its amendments are counted on", chair.question(0, 4), 1);
        Checks.due("it was not made", chair.count(18), 1);
        chair.move(0, 7, 0, 0, 0);
        chair.decide(1, 0);
        Checks.due("that decision is not reconsidered twice", chair.rule(0, 11, 0, 0, 0), 10);
        chair.move(0, 10, 0, 0, 0);
        chair.decide(1, 0);
        chair.decide(0, 1);
        Checks.due("a new decision is", chair.move(0, 11, 0, 0, 0), 1);
        chair.decide(1, 0);
        Checks.due("a rejected question comes up", chair.question(0, 0), 0);
    }

    private static void reconsideringMovesResolutions() {
        AssemblyChair chair = Halls.withQuestion(1, 2);
        Halls.adopt(chair);
        Halls.moveMain(chair, 3);
        Halls.adopt(chair);
        Halls.carry(chair, 11);
        Checks.due("the first stays", Halls.resolutionOf(chair, 0), 1, 2);
        Checks.due("the last is gone", chair.resolution(1, -1), Halls.NONE);
        Halls.carry(chair, 7);
        Halls.moveMain(chair, 4, 5);
        chair.divide(1);
        Halls.adopt(chair);
        Halls.carry(chair, 7);
        Checks.due("resolutions", chair.question(2, 1), 1);
        Halls.carry(chair, 11);
        Halls.carry(chair, 7);
        Checks.due("one is left", chair.count(7), 1);
    }

    private static void nextParts() {
        AssemblyChair chair = Halls.withQuestion(1, 2, 3, 4);
        chair.divide(3);
        chair.divide(2);
        chair.divide(1);
        Checks.due("the parts in order", new int[] {chair.question(0, 3), chair.question(3, 3),
            chair.question(2, 3), chair.question(1, 3)}, 3, 2, 1, Halls.NOTHING);
        Halls.adopt(chair);
        Checks.due("none any more", chair.question(0, 3), Halls.NOTHING);
        Checks.due("after a resolution", chair.question(3, 0), 0);
        Halls.reject(chair);
        Checks.due("after a rejected one", chair.question(2, 0), 0);
        Halls.carry(chair, 1);
        Checks.due("after a dropped one", chair.question(1, 0), 0);
        Checks.due("it is a main motion", Halls.kindsPending(chair), 0);
        Halls.adopt(chair);
        Checks.due("no more", chair.pending(-1, 0), 0);
        Checks.due("the last is the second resolution", chair.question(1, 1), 1);
        Checks.due("they were not made", chair.count(18), 3);
        Checks.due("one was, and one to drop", chair.count(13), 2);
    }
}
