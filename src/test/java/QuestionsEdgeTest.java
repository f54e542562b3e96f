/**
 * Questions, dividing and taking up, promises 9 to 11 and 16 to 18: a test for each sentence that
 * names an edge.
 */
public final class QuestionsEdgeTest {
    private static final String Q = Scenes.ONE + Scenes.main(10, 20, 30);
    private static final String EIGHT = Scenes.ONE + Scenes.main(1, 2, 3, 4, 5, 6, 7, 8);
    private static final String[] FAR = {"-3", "MIN", "MAX", "8", "20", "256"};

    private QuestionsEdgeTest() { }

    public static void main(String[] args) {
        oneToEightClauses();
        numberedFromNought();
        atMostTwentyQuestions();
        dividesWhileAMainMotionIsOnTop();
        dividesBehindTheFirstClause();
        dividesAlsoWithoutAQuorum();
        theOthersBecomeTheNextPart();
        aNextPartOfANextPart();
        noDivisionWithTwentyQuestions();
        stateBadAndFullInThisOrder();
        committeesThatReport();
        aCommitteeThatHasNone();
        reportsOfAClosedMeeting();
        allThatWentThere();
        aMinuteThatHasCome();
        theEarliestMinuteFirst();
        forTheSameMinuteWhatWasPostponedFirst();
        noQuestionAmongIt();
        nextWhileAMotionIsPendingOrClosed();
        clausesOfAText();
        propertiesOfAQuestion();
        statesOfAQuestion();
        draftsWithoutAQuestion();
        positionsOfADraft();
        draftsOfAmendments();
        Checks.finish();
    }

    /** "A question is a text of 1 to 8 clauses, numbers from 0 to 99". */
    private static void oneToEightClauses() {
        Scenes.due(Scenes.ONE + Scenes.main(0), "text 0 -1", 1);
        Scenes.due(EIGHT, "text 0 -1", 8);
        Scenes.due(EIGHT, "text 0 7", 8);
        Scenes.due(EIGHT, "text 0 8", Scenes.NONE);
        Scenes.textDue(Scenes.ONE + Scenes.main(0, 99, 0), 0, 0, 99, 0);
        Scenes.textDue(EIGHT + Scenes.times(7, Scenes.carried("2 1 0")), 0, 8);
        Scenes.textDue(Scenes.ONE + Scenes.main(9) + Scenes.times(7, Scenes.carried("2 0 0 1")), 0,
            1, 1, 1, 1, 1, 1, 1, 9);
    }

    /** "questions are numbered from 0 in the order in which they come up", parts when divided. */
    private static void numberedFromNought() {
        String one = Scenes.main(10) + Scenes.AGAINST;
        for (int n = 0; n < 20; n++) {
            Scenes.due(Scenes.ONE + Scenes.times(n, one) + Scenes.main(50), "text " + n + " 0", 50);
            Scenes.due(Scenes.ONE + Scenes.times(n, one) + Scenes.main(50), "count 6", n + 1);
        }
        Scenes.due(Q + "divide 2; divide 1;", "count 6", 3);
    }

    /** "There are at most 20 questions." */
    private static void atMostTwentyQuestions() {
        String one = Scenes.main(10) + Scenes.AGAINST;
        Scenes.due(Scenes.ONE + Scenes.times(19, one) + "clause 5;", "move 0 0 0 0 0", 1);
        Scenes.due(Scenes.ONE + Scenes.times(20, one) + "clause 5;", "move 0 0 0 0 0", -111);
        String eighteen = Scenes.ONE + Scenes.times(18, one) + Scenes.main(10, 20, 30);
        Scenes.due(eighteen, "divide 1", 19);
        Scenes.due(eighteen + "divide 2;", "divide 1", Scenes.FULL);
        Scenes.due(eighteen + "divide 2;" + Scenes.YES + Scenes.YES + Scenes.carried("11"),
            "count 6", 20);
    }

    /** "While a main motion is on top"; "STATE if no main motion is on top". */
    private static void dividesWhileAMainMotionIsOnTop() {
        Scenes.due("", "divide 1", Scenes.STATE);
        Scenes.due(Scenes.ONE, "divide 1", Scenes.STATE);
        for (int kind = 1; kind <= 9; kind++) {
            Scenes.due(Q + Scenes.made(Scenes.possible(kind)), "divide 1", Scenes.STATE);
            Scenes.due(Q + Scenes.lost(Scenes.possible(kind)), "divide 1", 1);
        }
        Scenes.due(Scenes.ONE + Scenes.made("8 5"), "divide 1", Scenes.STATE);
        Scenes.due(Q + Scenes.carried("7"), "divide 1", Scenes.STATE);
        Scenes.due(Q + Scenes.carried("7") + Scenes.made("10"), "divide 1", Scenes.STATE);
        Scenes.due(Q + Scenes.YES + Scenes.made("11"), "divide 1", Scenes.STATE);
        Scenes.due(Q + Scenes.carried("9"), "divide 1", Scenes.STATE);
        Scenes.due(Q + Scenes.YES + Scenes.carried("11"), "divide 1", 1);
    }

    /** "BAD if position is not that of a clause behind the first one". */
    private static void dividesBehindTheFirstClause() {
        Scenes.due(Q, "divide 1", 1);
        Scenes.due(Q, "divide 2", 1);
        for (String position : new String[] {"0", "3", "-1", "4", "MIN", "MAX", "256"}) {
            Scenes.due(Q, "divide " + position, Scenes.BAD);
        }
        Scenes.due(EIGHT, "divide 7", 1);
        Scenes.due(EIGHT, "divide 8", Scenes.BAD);
        Scenes.due(Scenes.ONE + Scenes.main(10), "divide 0", Scenes.BAD);
        Scenes.due(Scenes.ONE + Scenes.main(10), "divide 1", Scenes.BAD);
        Scenes.due(Scenes.ONE + Scenes.main(10, 20), "divide 1", 1);
    }

    /** "its question can be divided before a clause, also without a quorum". */
    private static void dividesAlsoWithoutAQuorum() {
        Scenes.due(Q + "presence 0 0;", "divide 1", 1);
        Scenes.due(Q + "quorum 100; delegate 9; presence 1 0;", "divide 1", 1);
        Scenes.due(Q + Scenes.carried("6"), "divide 1", 1);
    }

    /** "it keeps the clauses ahead, and the others become a new question, its next part". */
    private static void theOthersBecomeTheNextPart() {
        String first = EIGHT + "divide 1;";
        Scenes.textDue(first, 0, 1);
        Scenes.textDue(first, 1, 2, 3, 4, 5, 6, 7, 8);
        String last = EIGHT + "divide 7;";
        Scenes.textDue(last, 0, 1, 2, 3, 4, 5, 6, 7);
        Scenes.textDue(last, 1, 8);
        Scenes.dueOf(last, "question 0 #", 0, -5, 0, 1, 0);
        Scenes.dueOf(last, "question 1 #", 7, -5, 0, -5, 0);
        Scenes.pendingDue(last, 0);
        String other = "delegate 1; delegate 1; clause 1; clause 2; move 1 0 0 0 0; divide 1;";
        Scenes.due(other, "question 1 2", 1);
        Scenes.due(other + "decide 3 0;", "pending 0 1", 1);
        Scenes.due(other + "decide 3 0;", "pending 0 0", 0);
    }

    /** "a next part that it had becomes that of the new question". */
    private static void aNextPartOfANextPart() {
        String thrice = EIGHT + "divide 4; divide 2; divide 1;";
        Scenes.due(thrice, "question 0 3", 3);
        Scenes.due(thrice, "question 3 3", 2);
        Scenes.due(thrice, "question 2 3", 1);
        Scenes.due(thrice, "question 1 3", Scenes.NOTHING);
        Scenes.due(thrice + Scenes.YES, "question 3 3", 2);
        Scenes.due(thrice + Scenes.YES + Scenes.YES, "divide 1", 4);
        Scenes.due(thrice + Scenes.YES + Scenes.YES + "divide 1;", "question 2 3", 4);
        Scenes.due(thrice + Scenes.YES + Scenes.YES + "divide 1;", "question 4 3", 1);
    }

    /** "FULL if there are 20 questions". */
    private static void noDivisionWithTwentyQuestions() {
        String one = Scenes.main(10) + Scenes.AGAINST;
        Scenes.due(Scenes.ONE + Scenes.times(19, one) + Scenes.main(1, 2), "divide 1", Scenes.FULL);
        Scenes.due(Scenes.ONE + Scenes.times(18, one) + Scenes.main(1, 2), "divide 1", 19);
    }

    /** "STATE if no main motion is on top; BAD ..; FULL ..", in this order. */
    private static void stateBadAndFullInThisOrder() {
        String full = Scenes.ONE + Scenes.times(19, Scenes.main(10) + Scenes.AGAINST)
            + Scenes.main(1, 2);
        Scenes.due(Scenes.ONE, "divide 0", Scenes.STATE);
        Scenes.due(Q + Scenes.made("7"), "divide 0", Scenes.STATE);
        Scenes.due(Q + Scenes.made("7"), "divide 3", Scenes.STATE);
        Scenes.due(full, "divide 0", Scenes.BAD);
        Scenes.due(full, "divide 2", Scenes.BAD);
        Scenes.due(full + Scenes.made("7"), "divide 1", Scenes.STATE);
        Scenes.due(full + Scenes.made("7"), "divide 0", Scenes.STATE);
        Scenes.due(full + Scenes.YES, "divide 1", Scenes.STATE);
    }

    /** "NONE if there is no such committee": 0 to 3, and ahead of STATE. */
    private static void committeesThatReport() {
        for (int committee = 0; committee < 4; committee++) {
            String referred = Q + Scenes.carried("3 " + committee);
            for (int other = 0; other < 4; other++) {
                Scenes.due(referred, "report " + other, other == committee ? 0 : Scenes.STATE);
            }
        }
        for (String committee : new String[] {"-1", "4", "MIN", "MAX", "32"}) {
            Scenes.due("", "report " + committee, Scenes.NONE);
            Scenes.due(Q, "report " + committee, Scenes.NONE);
            Scenes.due(Q + Scenes.carried("9"), "report " + committee, Scenes.NONE);
        }
    }

    /** "STATE if it has none, a motion is pending, or the meeting is closed". */
    private static void aCommitteeThatHasNone() {
        Scenes.due("", "report 0", Scenes.STATE);
        Scenes.due(Q, "report 0", Scenes.STATE);
        Scenes.due(Q + Scenes.carried("7"), "report 0", Scenes.STATE);
        Scenes.due(Q + Scenes.carried("4 5"), "report 0", Scenes.STATE);
        String referred = Q + Scenes.carried("3 1");
        Scenes.due(referred + "report 1;" + Scenes.AGAINST, "report 1", Scenes.STATE);
        Scenes.due(referred + Scenes.main(5), "report 1", Scenes.STATE);
        Scenes.due(referred + Scenes.made("8 5"), "report 1", Scenes.STATE);
        Scenes.due(referred + Scenes.lost("8 5"), "report 1", 0);
    }

    private static void reportsOfAClosedMeeting() {
        String closed = Q + Scenes.carried("3 1") + Scenes.carried("9");
        Scenes.due(closed, "report 1", Scenes.STATE);
        Scenes.due(closed + "open;", "report 1", 0);
        Scenes.due(Q + Scenes.carried("3 1") + "presence 0 0;", "report 1", 0);
    }

    /** "Returns the number of the question": "all that went there is pending again". */
    private static void allThatWentThere() {
        String stack = Q + Scenes.AGAINST + Scenes.main(10, 20, 30) + Scenes.made("1")
            + Scenes.made("2 0 1 50") + Scenes.carried("3 2");
        Scenes.due(stack, "report 2", 1);
        Scenes.pendingDue(stack + "report 2;", 0, 1, 2);
        Scenes.dueOf(stack + "report 2;", "pending 2 #", 2, 0, 0, 1, 50, 1);
        Scenes.due(stack + "report 2;", "count 10", 0);
        Scenes.due(stack + "report 2;", "question 1 0", 0);
        Scenes.due(stack + "report 2;", "question 1 1", Scenes.NOTHING);
        Scenes.due(stack + "report 2;", "count 18", 0);
        String four = Q + Scenes.carried("3 3") + Scenes.main(5) + Scenes.carried("3 0")
            + Scenes.main(6) + Scenes.carried("3 2") + Scenes.main(7) + Scenes.carried("3 1");
        Scenes.due(four, "count 10", 4);
        Scenes.due(four, "report 3", 0);
        Scenes.due(four, "report 0", 1);
        Scenes.due(four, "report 2", 2);
        Scenes.due(four, "report 1", 3);
    }

    /** "what has waited for a minute that has come"; "-5 if nothing waits for such a minute". */
    private static void aMinuteThatHasCome() {
        Scenes.due("", "next", Scenes.NOTHING);
        String waits = Q + Scenes.carried("4 30");
        Scenes.due(waits, "next", Scenes.NOTHING);
        Scenes.due(waits + "pass 29;", "next", Scenes.NOTHING);
        Scenes.due(waits + "pass 30;", "next", 0);
        Scenes.due(waits + "pass 31;", "next", 0);
        Scenes.due(waits + Scenes.carried("8 30"), "next", 0);
        Scenes.due(waits + Scenes.carried("8 29"), "next", Scenes.NOTHING);
        Scenes.due(waits + "pass 30; next;" + Scenes.AGAINST, "next", Scenes.NOTHING);
        Scenes.due(waits + "pass 30; next;", "count 9", 0);
        String last = Q + Scenes.carried("4 9999") + Scenes.times(19, "pass 500;") + "pass 498;";
        Scenes.due(last, "next", Scenes.NOTHING);
        Scenes.due(last + "pass 1;", "next", 0);
        Scenes.due(Q + Scenes.carried("9") + "open;", "next", 0);
        Scenes.due(Q + Scenes.carried("7"), "next", Scenes.NOTHING);
        Scenes.due(Q + Scenes.carried("3"), "next", Scenes.NOTHING);
        Scenes.due(waits + "pass 30; presence 0 0;", "next", 0);
    }

    /** "the earliest such minute first". */
    private static void theEarliestMinuteFirst() {
        String three = Scenes.ONE + Scenes.main(1) + Scenes.carried("4 30") + Scenes.main(2)
            + Scenes.carried("4 10") + Scenes.main(3) + Scenes.carried("4 20");
        Scenes.due(three + "pass 9;", "next", Scenes.NOTHING);
        Scenes.due(three + "pass 10;", "next", 1);
        Scenes.due(three + "pass 30;", "next", 1);
        Scenes.due(three + "pass 30; next;" + Scenes.AGAINST, "next", 2);
        Scenes.due(three + "pass 30; next;" + Scenes.AGAINST + "next;" + Scenes.AGAINST, "next", 0);
        Scenes.due(three + "pass 29; next;" + Scenes.AGAINST + "next;" + Scenes.AGAINST, "next",
            Scenes.NOTHING);
    }

    /** "for the same minute what was postponed first". */
    private static void forTheSameMinuteWhatWasPostponedFirst() {
        String three = Scenes.ONE + Scenes.main(1) + Scenes.carried("7") + Scenes.main(2)
            + Scenes.carried("4 10") + Scenes.main(3) + Scenes.carried("4 10")
            + Scenes.carried("10") + Scenes.carried("4 10") + "pass 10;";
        Scenes.due(three, "next", 1);
        Scenes.due(three + "next;" + Scenes.AGAINST, "next", 2);
        Scenes.due(three + "next;" + Scenes.AGAINST + "next;" + Scenes.AGAINST, "next", 0);
        String adjourned = three + "next;" + Scenes.carried("9") + "open;";
        Scenes.due(adjourned, "next", 2);
        String both = adjourned + "next;" + Scenes.AGAINST + "next;" + Scenes.AGAINST;
        Scenes.due(both, "next", 1);
    }

    /** "99 if none is among it". */
    private static void noQuestionAmongIt() {
        String recess = "delegate 1; delegate 1; move 1 8 5 0 0; move 0 9 0 0 0; decide 3 0; open;";
        Scenes.due(recess, "next", 99);
        Scenes.pendingDue(recess + "next;", 8);
        Scenes.dueOf(recess + "next;", "pending 0 #", 8, 1, 5, 0, 0, 0);
        Scenes.lastEntryDue(recess + "next;", 0, 5, 1, 99);
        Scenes.due(recess + "next;", "count 9", 0);
        Scenes.due(recess + "next; decide 3 0;", "count 0", 5);
    }

    /** "STATE if a motion is pending, or the meeting is closed; .. -5", in this order. */
    private static void nextWhileAMotionIsPendingOrClosed() {
        Scenes.due(Q, "next", Scenes.STATE);
        Scenes.due(Scenes.ONE + Scenes.made("8 5"), "next", Scenes.STATE);
        Scenes.due(Scenes.ONE + Scenes.carried("9"), "next", Scenes.STATE);
        Scenes.due(Q + Scenes.carried("9"), "next", Scenes.STATE);
        String waits = Q + Scenes.carried("4 1") + "pass 1;";
        Scenes.due(waits + Scenes.main(5), "next", Scenes.STATE);
        Scenes.due(waits + Scenes.carried("9"), "next", Scenes.STATE);
        Scenes.due(waits + Scenes.carried("9") + "open;", "next", 0);
    }

    /** Promise 16: "NONE if there is no such question or position". */
    private static void clausesOfAText() {
        Scenes.dueOf(Q, "text 0 #", 10, 20, 30, -1);
        Scenes.due(Q, "text 0 -1", 3);
        Scenes.due(Q, "text 0 -2", Scenes.NONE);
        for (String far : FAR) {
            Scenes.due(Q, "text 0 " + far, Scenes.NONE);
            Scenes.due(Q, "text " + far + " 0", Scenes.NONE);
            Scenes.due(Q, "text " + far + " -1", Scenes.NONE);
        }
        Scenes.due(Q, "text 1 0", Scenes.NONE);
        Scenes.due(Q, "text 1 -1", Scenes.NONE);
        Scenes.due(Q, "text -1 -1", Scenes.NONE);
        Scenes.due("", "text 0 -1", Scenes.NONE);
        Scenes.due(Q + Scenes.carried("2 1 0"), "text 0 2", Scenes.NONE);
        Scenes.due(Q + Scenes.made("2 1 0"), "text 0 2", 30);
        Scenes.due(Q + "divide 2;", "text 0 2", Scenes.NONE);
        Scenes.due(Q + "image; divide 2; undo;", "text 0 2", 30);
        Scenes.due(Q + "image; divide 2; undo;", "text 1 0", Scenes.NONE);
    }

    /** Promise 17: "NONE if there is no such question or what is invalid". */
    private static void propertiesOfAQuestion() {
        Scenes.dueOf(Q, "question 0 #", 0, -5, 0, -5, 0, -1);
        Scenes.due(Q, "question 0 -1", Scenes.NONE);
        Scenes.due(Q, "question -1 0", Scenes.NONE);
        Scenes.due(Q, "question 1 0", Scenes.NONE);
        for (String far : FAR) {
            Scenes.due(Q, "question 0 " + far, Scenes.NONE);
            Scenes.due(Q, "question " + far + " 0", Scenes.NONE);
        }
        String twenty = Scenes.ONE + Scenes.times(20, Scenes.main(10) + Scenes.AGAINST);
        Scenes.due(twenty, "question 19 0", 5);
        Scenes.due(twenty, "question 20 0", Scenes.NONE);
    }

    /** Promise 17: the states 0 to 7, and the number that goes with 1, 2 and 4 alone. */
    private static void statesOfAQuestion() {
        String[] scenes = {Q, Q + Scenes.carried("3 3"), Q + Scenes.carried("4 77"),
            Q + Scenes.carried("7"), Q + Scenes.YES, Q + Scenes.AGAINST, Q + Scenes.carried("1")};
        int[] numbers = {-5, 3, 77, -5, 0, -5, -5};
        for (int state = 0; state < scenes.length; state++) {
            Scenes.due(scenes[state], "question 0 0", state);
            Scenes.due(scenes[state], "question 0 1", numbers[state]);
        }
        Scenes.due(Q + "divide 1;", "question 1 0", 7);
        Scenes.due(Q + "divide 1;", "question 1 1", Scenes.NOTHING);
        Scenes.due(Q + "pass 6;" + Scenes.carried("9"), "question 0 1", 6);
        Scenes.due(Q + Scenes.carried("3 3") + "report 3;", "question 0 1", Scenes.NOTHING);
        Scenes.due(Q + Scenes.carried("4 1") + "pass 1; next;", "question 0 1", Scenes.NOTHING);
        String second = Scenes.ONE + Scenes.main(1) + Scenes.YES + Scenes.main(2) + Scenes.YES;
        Scenes.due(second, "question 1 1", 1);
        Scenes.due(second + Scenes.carried("11"), "question 1 1", Scenes.NOTHING);
    }

    /** Promise 18: "STATE if no question is pending; NONE ..", in this order. */
    private static void draftsWithoutAQuestion() {
        String[] without = {"", Scenes.ONE + Scenes.made("8 5"), Q + Scenes.YES, Q + Scenes.carried("7"),
            Q + Scenes.carried("7") + Scenes.made("10"), Q + Scenes.YES + Scenes.made("11"),
            Q + Scenes.carried("9")};
        for (String scene : without) {
            for (String i : new String[] {"0", "-1", "-2", "8", "MAX", "MIN"}) {
                Scenes.due(scene, "draft " + i, Scenes.STATE);
            }
        }
    }

    /** Promise 18: "NONE if there is no such position". */
    private static void positionsOfADraft() {
        Scenes.dueOf(Q, "draft #", 10, 20, 30, -1);
        Scenes.due(Q, "draft -1", 3);
        Scenes.due(Q, "draft -2", Scenes.NONE);
        for (String far : FAR) {
            Scenes.due(Q, "draft " + far, Scenes.NONE);
        }
        String seven = Scenes.ONE + Scenes.main(1, 2, 3, 4, 5, 6, 7) + Scenes.made("2 0 7 8");
        Scenes.due(seven, "draft -1", 8);
        Scenes.due(seven, "draft 7", 8);
        Scenes.due(seven, "draft 8", Scenes.NONE);
        String two = Scenes.ONE + Scenes.main(10, 20) + Scenes.made("2 1 0");
        Scenes.due(two, "draft -1", 1);
        Scenes.due(two, "draft 0", 20);
        Scenes.due(two, "draft 1", Scenes.NONE);
    }

    /** "if all pending amendments were adopted, the one on top first". */
    private static void draftsOfAmendments() {
        Scenes.dueOf(Q + Scenes.made("2 0 0 50"), "draft #", 50, 10, 20, 30, -1);
        Scenes.dueOf(Q + Scenes.made("2 0 3 50"), "draft #", 10, 20, 30, 50, -1);
        Scenes.dueOf(Q + Scenes.made("2 1 2"), "draft #", 10, 20, -1);
        Scenes.dueOf(Q + Scenes.made("2 2 2 50"), "draft #", 10, 20, 50, -1);
        String moved = Q + Scenes.made("2 0 0 50") + Scenes.made("2 0 3");
        Scenes.dueOf(moved, "draft #", 10, 20, 30, 50, -1);
        Scenes.dueOf(moved + Scenes.made("6"), "draft #", 10, 20, 30, 50, -1);
        Scenes.dueOf(moved + Scenes.AGAINST, "draft #", 50, 10, 20, 30, -1);
        Scenes.dueOf(moved + Scenes.YES, "draft #", 10, 20, 30, 50, -1);
        Scenes.dueOf(moved + Scenes.YES + Scenes.made("2 2 0 51"), "draft #", 10, 20, 30, 51, -1);
        Scenes.dueOf(moved + Scenes.YES + Scenes.AGAINST, "draft #", 10, 20, 30, -1);
        Scenes.dueOf(Q + Scenes.made("2 1 0") + Scenes.made("2 0 1"), "draft #", 10, 30, -1);
        Scenes.dueOf(Q + Scenes.made("2 2 0 50") + Scenes.made("2 2 0 0"), "draft #", 0, 20, 30, -1);
        String taken = moved + Scenes.carried("3") + "report 0;";
        Scenes.dueOf(taken, "draft #", 10, 20, 30, 50, -1);
    }
}
