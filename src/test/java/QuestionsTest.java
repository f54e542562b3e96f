/** The promises 9 to 11 and 16 to 18: dividing, taking up, and what questions are. */
public final class QuestionsTest {
    private QuestionsTest() { }

    public static void main(String[] args) {
        promise9();
        dividesWithoutQuorumAndDebate();
        twentyQuestions();
        promise10();
        promise11();
        nextWithoutAQuestion();
        manyRecesses();
        promise16();
        promise17();
        promise18();
        Checks.finish();
    }

    private static void promise9() {
        AssemblyChair chair = Halls.with(1, 1);
        Checks.due("nothing is pending", chair.divide(1), Halls.STATE);
        for (int clause = 1; clause <= 4; clause++) {
            chair.clause(clause);
        }
        chair.move(1, 0, 0, 0, 0);
        Checks.due("before the first", chair.divide(0), Halls.BAD);
        Checks.due("below", chair.divide(-1), Halls.BAD);
        Checks.due("behind the last", chair.divide(4), Halls.BAD);
        Halls.move(chair, 7);
        Checks.due("another motion is on top", chair.divide(1), Halls.STATE);
        Checks.due("state is ahead of bad", chair.divide(0), Halls.STATE);
        chair.decide(0, 0);
        chair.pass(6);
        Checks.due("before the last", chair.divide(3), 1);
        Checks.due("what it keeps", Halls.textOf(chair, 0), 1, 2, 3);
        Checks.due("the others", Halls.textOf(chair, 1), 4);
        Checks.due("its next part", chair.question(0, 3), 1);
        Checks.due("has not come up yet", chair.question(1, 0), 7);
        Checks.due("its mover", chair.question(1, 2), 1);
        Checks.due("the entry", Halls.entryOf(chair, 3), 6, 4, 1, 3);
        Checks.due("before the second", chair.divide(1), 2);
        Checks.due("what it keeps then", Halls.textOf(chair, 0), 1);
        Checks.due("the others then", Halls.textOf(chair, 2), 2, 3);
        Checks.due("the next part of the part", chair.question(2, 3), 1);
        Checks.due("one clause is not divided", chair.divide(1), Halls.BAD);
        chair.decide(3, 0);
        Checks.due("the mover of a part", chair.pending(0, 1), 1);
        Checks.due("a part is divided", chair.divide(1), 3);
        Checks.due("the part's part", chair.question(2, 3), 3);
        Checks.due("and its next", chair.question(3, 3), 1);
    }

    private static void dividesWithoutQuorumAndDebate() {
        AssemblyChair chair = Halls.withQuestion(1, 2);
        Halls.carry(chair, 6);
        chair.presence(0, 0);
        Checks.due("no quorum", chair.count(5), 0);
        Checks.due("divided", chair.divide(1), 1);
        Checks.due("debate stays closed", chair.count(12), 1);
        AssemblyChair recess = Halls.with(1);
        Halls.move(recess, 8, 1);
        Checks.due("a recess is not divided", recess.divide(1), Halls.STATE);
    }

    private static void twentyQuestions() {
        AssemblyChair chair = Halls.with(1);
        for (int i = 0; i < 19; i++) {
            Halls.moveMain(chair, i);
            Halls.reject(chair);
        }
        Halls.moveMain(chair, 1, 2);
        Checks.due("no 21st", chair.divide(1), Halls.FULL);
        Checks.due("bad is ahead of full", chair.divide(2), Halls.BAD);
        Checks.due("the text is whole", Halls.textOf(chair, 19), 1, 2);
    }

    private static void promise10() {
        AssemblyChair chair = Halls.with(1, 1);
        Checks.due("committee -1", chair.report(-1), Halls.NONE);
        Checks.due("committee 4", chair.report(4), Halls.NONE);
        Checks.due("it has none", chair.report(0), Halls.STATE);
        Halls.moveMain(chair, 1);
        chair.move(1, 2, 0, 0, 5);
        chair.move(0, 3, 3, 0, 0);
        chair.decide(3, 0);
        chair.clause(4);
        chair.move(1, 0, 0, 0, 0);
        Checks.due("a motion is pending", chair.report(3), Halls.STATE);
        chair.move(0, 3, 0, 0, 0);
        chair.decide(3, 0);
        Checks.due("two committees", chair.count(10), 2);
        chair.move(0, 9, 0, 0, 0);
        chair.decide(3, 0);
        Checks.due("closed", chair.report(3), Halls.STATE);
        chair.open();
        chair.pass(5);
        chair.presence(0, 0);
        chair.presence(1, 0);
        Checks.due("it reports without a quorum too", chair.report(3), 0);
        Checks.due("all is pending again", Halls.kindsPending(chair), 0, 2);
        Checks.due("the entry", Halls.entryOf(chair, chair.entry(-1, 0) - 1), 5, 5, 0, 0);
        Checks.due("one committee", chair.count(10), 1);
        chair.presence(0, 1);
        chair.presence(1, 1);
        chair.decide(0, 3);
        chair.decide(0, 3);
        Checks.due("the other", chair.report(0), 1);
        Checks.due("its entry", Halls.entryOf(chair, chair.entry(-1, 0) - 1), 5, 5, 1, 1);
        chair.decide(0, 3);
        Checks.due("it has none any more", chair.report(0), Halls.STATE);
    }

    private static void postpone(AssemblyChair chair, int clause, int minute) {
        Halls.moveMain(chair, clause);
        Halls.carry(chair, 4, minute);
    }

    private static void promise11() {
        AssemblyChair chair = Halls.with(1);
        Checks.due("nothing waits", chair.next(), Halls.NOTHING);
        postpone(chair, 1, 30);
        postpone(chair, 2, 20);
        postpone(chair, 3, 20);
        postpone(chair, 4, 31);
        Checks.due("four wait", chair.count(9), 4);
        chair.pass(19);
        Checks.due("none has come", chair.next(), Halls.NOTHING);
        chair.pass(11);
        Checks.due("the earliest, first postponed", chair.next(), 1);
        Checks.due("a motion is pending", chair.next(), Halls.STATE);
        Checks.due("the entry", Halls.entryOf(chair, chair.entry(-1, 0) - 1), 30, 5, 0, 1);
        Halls.carry(chair, 9);
        Checks.due("closed", chair.next(), Halls.STATE);
        chair.open();
        Checks.due("the same minute", chair.next(), 2);
        Halls.reject(chair);
        Checks.due("the later minute", chair.next(), 0);
        Halls.reject(chair);
        Checks.due("what was adjourned to this minute", chair.next(), 1);
        Halls.reject(chair);
        Checks.due("one has not come", chair.next(), Halls.NOTHING);
        chair.pass(1);
        Checks.due("it has come", chair.next(), 3);
    }

    private static void nextWithoutAQuestion() {
        AssemblyChair chair = Halls.with(1, 1);
        chair.move(1, 8, 7, 0, 0);
        chair.move(0, 9, 0, 0, 0);
        chair.decide(3, 0);
        Checks.due("it waits", chair.count(9), 1);
        chair.open();
        Checks.due("no question", chair.next(), 99);
        Checks.due("a recess", Halls.kindsPending(chair), 8);
        Checks.due("of its minutes", chair.pending(0, 2), 7);
        Checks.due("the entry", Halls.entryOf(chair, 3), 0, 5, 1, 99);
        Checks.due("no draft", chair.draft(-1), Halls.STATE);
        chair.decide(3, 0);
        Checks.due("it is taken", chair.count(0), 7);
    }

    private static void manyRecesses() {
        AssemblyChair chair = Halls.with(1);
        for (int i = 1; i <= 127; i++) {
            Halls.move(chair, 8, i);
            Halls.carry(chair, 9);
            chair.open();
        }
        Checks.due("all wait", chair.count(9), 127);
        Checks.due("all are motions", chair.count(16), 127);
        Checks.due("the first", chair.next(), 99);
    }

    private static void promise16() {
        AssemblyChair chair = Halls.withQuestion(7, 0, 99);
        Checks.due("the clauses", Halls.textOf(chair, 0), 7, 0, 99);
        Checks.due("their number", chair.text(0, -1), 3);
        Checks.due("position 3", chair.text(0, 3), Halls.NONE);
        Checks.due("position -2", chair.text(0, -2), Halls.NONE);
        Checks.due("question 1", chair.text(1, 0), Halls.NONE);
        Checks.due("question 1, its length", chair.text(1, -1), Halls.NONE);
        Checks.due("question -1", chair.text(-1, 0), Halls.NONE);
        Halls.move(chair, 2, 1, 0, 0);
        Checks.due("not yet", Halls.textOf(chair, 0), 7, 0, 99);
        Halls.adopt(chair);
        Checks.due("as it is now", Halls.textOf(chair, 0), 0, 99);
        Checks.due("position 2 is gone", chair.text(0, 2), Halls.NONE);
    }

    private static void promise17() {
        AssemblyChair chair = Halls.with(1, 1);
        Checks.due("no question", chair.question(0, 0), Halls.NONE);
        chair.clause(1);
        chair.clause(2);
        chair.move(1, 0, 0, 0, 0);
        int[] due = {0, Halls.NOTHING, 1, Halls.NOTHING, 0};
        for (int what = 0; what < due.length; what++) {
            Checks.due("question " + what, chair.question(0, what), due[what]);
        }
        Checks.due("what 5", chair.question(0, 5), Halls.NONE);
        Checks.due("what -1", chair.question(0, -1), Halls.NONE);
        Checks.due("question 1", chair.question(1, 0), Halls.NONE);
        Checks.due("question -1", chair.question(-1, 0), Halls.NONE);
        chair.move(0, 2, 0, 2, 3);
        chair.decide(1, 0);
        chair.divide(1);
        Checks.due("amendments", chair.question(0, 4), 1);
        Checks.due("none to the part", chair.question(1, 4), 0);
        Checks.due("a part has no number", chair.question(1, 1), Halls.NOTHING);
        chair.decide(3, 0);
        chair.decide(3, 0);
        Checks.due("the second resolution", chair.question(1, 1), 1);
        chair.move(0, 11, 0, 0, 0);
        chair.decide(3, 0);
        Checks.due("it is pending", chair.question(1, 1), Halls.NOTHING);
    }

    private static void promise18() {
        AssemblyChair chair = Halls.with(1);
        Checks.due("no question", chair.draft(0), Halls.STATE);
        Checks.due("no question, its length", chair.draft(-1), Halls.STATE);
        Halls.moveMain(chair, 10, 20, 30);
        Checks.due("the text", Halls.draftOf(chair), 10, 20, 30);
        Checks.due("position 3", chair.draft(3), Halls.NONE);
        Checks.due("position -2", chair.draft(-2), Halls.NONE);
        Halls.move(chair, 1);
        Halls.move(chair, 2, 2, 1, 25);
        Checks.due("replaced", Halls.draftOf(chair), 10, 25, 30);
        Halls.move(chair, 2, 0, 2, 0);
        Checks.due("elsewhere", Halls.draftOf(chair), 10, 20, 25);
        Halls.move(chair, 3, 0);
        Checks.due("whatever lies on it", Halls.draftOf(chair), 10, 20, 25);
        Halls.reject(chair);
        Halls.reject(chair);
        Checks.due("rejected", Halls.draftOf(chair), 10, 25, 30);
        Halls.move(chair, 2, 2, 0, 26);
        Checks.due("another clause", Halls.draftOf(chair), 10, 26, 30);
        Checks.due("nothing is changed", Halls.textOf(chair, 0), 10, 20, 30);
        Checks.due("nor the amendment", chair.pending(2, 4), 25);
        Halls.reject(chair);
        Halls.reject(chair);
        Halls.move(chair, 2, 1, 0, 0);
        Checks.due("struck out", Halls.draftOf(chair), 20, 30);
        Checks.due("its length", chair.draft(-1), 2);
        Checks.due("position 2", chair.draft(2), Halls.NONE);
        Halls.carry(chair, 7);
        Checks.due("on the table", chair.draft(0), Halls.STATE);
    }
}
