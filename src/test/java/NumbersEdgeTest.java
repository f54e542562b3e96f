/**
 * The rules 10 and 11, "Numbers and room", with promises 6, 14 and 15: for each number of a motion
 * the lowest and the highest that is allowed, those just beyond, and those that wrap around.
 */
public final class NumbersEdgeTest {
    private static final String Q = Scenes.ONE + Scenes.main(10, 20, 30);
    private static final String SEVEN = Scenes.ONE + Scenes.main(1, 2, 3, 4, 5, 6, 7);
    private static final String EIGHT = Scenes.ONE + Scenes.main(1, 2, 3, 4, 5, 6, 7, 8);
    /** The minute 9500. */
    private static final String LATE = Scenes.times(19, "pass 500;");
    private static final String[] NO_CLAUSE = {"-1", "100", "MIN", "MAX", "256"};
    private static final String[] FAR = {"MIN", "MAX", "-1", "32", "256", "-32"};

    private NumbersEdgeTest() { }

    public static void main(String[] args) {
        lessThanTwentyQuestions();
        theBufferIsEmpty();
        formsOfAnAmendment();
        insertingFromNoughtToTheNumberOfClauses();
        insertingBelowEightClauses();
        insertingAClauseFromNoughtToNinetyNine();
        strikingThePositionOfAClause();
        strikingNeedsTwoClauses();
        strikingHasTheClauseNought();
        replacingThePositionOfAClause();
        replacingByAnotherClause();
        secondaryForms();
        secondaryPositions();
        secondaryPositionsToInsert();
        secondaryPositionsToStrike();
        secondaryPositionsToReplace();
        secondaryClauses();
        secondaryClausesOfAReplacement();
        secondaryHasTheOtherNumberNought();
        aSecondSecondaryIsLookedAtAsItIsNow();
        committeesFromNoughtToThree();
        theCommitteeHasNoQuestion();
        minutesAheadUpToTheLast();
        speechesFromOneToTwenty();
        lessThanThreeOnTheTable();
        recessesFromOneToFiveHundred();
        recessesUpToTheLastMinute();
        somethingLiesOnTheTable();
        aMainMotionWasDecidedByAVote();
        theMoverVotedWithThoseThatWon();
        theMoverWasPresentThen();
        noMotionToReconsiderThatDecision();
        numbersOfPendingMotions();
        noSuchPendingMotion();
        theHighestStack();
        Checks.finish();
    }

    private static void refusedAll(String scene, int rule, String... motions) {
        for (String motion : motions) {
            Scenes.refusedKind(scene, motion, rule);
        }
    }

    private static void allowedAll(String scene, int height, String... motions) {
        for (String motion : motions) {
            Scenes.allowedKind(scene, motion, height);
        }
    }

    /** "0: there are less than 20 questions (11)", parts of divided ones among them. */
    private static void lessThanTwentyQuestions() {
        String one = Scenes.main(10) + Scenes.AGAINST;
        Scenes.allowedKind(Scenes.ONE + Scenes.times(19, one) + "clause 5;", "0", 1);
        Scenes.due(Scenes.ONE + Scenes.times(19, one) + Scenes.main(10), "count 6", 20);
        Scenes.refusedKind(Scenes.ONE + Scenes.times(20, one) + "clause 5;", "0", 11);
        String divided = Scenes.ONE + Scenes.main(1, 2) + "divide 1;" + Scenes.AGAINST + Scenes.AGAINST;
        Scenes.allowedKind(divided + Scenes.times(17, one) + "clause 5;", "0", 1);
        Scenes.refusedKind(divided + Scenes.times(18, one) + "clause 5;", "0", 11);
    }

    /** "10 .. for 0: the buffer is empty". */
    private static void theBufferIsEmpty() {
        Scenes.refusedKind(Scenes.ONE, "0", 10);
        Scenes.refusedKind(Q + Scenes.YES, "0", 10);
        Scenes.allowedKind(Scenes.ONE + "clause 0;", "0", 1);
        Scenes.allowedKind(Scenes.ONE + Scenes.times(8, "clause 0;"), "0", 1);
    }

    /** "a is the form, 0 to insert, 1 to strike out, 2 to replace". */
    private static void formsOfAnAmendment() {
        allowedAll(Q, 2, "2 0 0 50", "2 1 0 0", "2 2 0 50");
        for (String form : new String[] {"-1", "3", "MIN", "MAX", "256"}) {
            refusedAll(Q, 10, "2 " + form + " 0 50", "2 " + form + " 0 0");
        }
    }

    /** "to insert, b is from 0 to the number of clauses". */
    private static void insertingFromNoughtToTheNumberOfClauses() {
        allowedAll(Q, 2, "2 0 0 50", "2 0 3 50", "2 0 1 10");
        refusedAll(Q, 10, "2 0 -1 50", "2 0 4 50", "2 0 MIN 50", "2 0 MAX 50");
        allowedAll(Scenes.ONE + Scenes.main(10), 2, "2 0 0 10", "2 0 1 10");
        refusedAll(Scenes.ONE + Scenes.main(10), 10, "2 0 2 10");
    }

    /** "the number of clauses, which is below 8". */
    private static void insertingBelowEightClauses() {
        allowedAll(SEVEN, 2, "2 0 0 50", "2 0 7 50");
        refusedAll(SEVEN, 10, "2 0 8 50");
        refusedAll(EIGHT, 10, "2 0 0 50", "2 0 7 50", "2 0 8 50", "2 0 9 50");
        refusedAll(SEVEN + Scenes.carried("2 0 7 50"), 10, "2 0 0 50", "2 0 8 50");
        allowedAll(EIGHT + Scenes.carried("2 1 0"), 2, "2 0 7 50");
        Scenes.textDue(SEVEN + Scenes.carried("2 0 7 50"), 0, 1, 2, 3, 4, 5, 6, 7, 50);
    }

    /** "and c is from 0 to 99". */
    private static void insertingAClauseFromNoughtToNinetyNine() {
        allowedAll(Q, 2, "2 0 0 0", "2 0 0 99", "2 0 3 0", "2 0 3 99");
        for (String clause : NO_CLAUSE) {
            refusedAll(Q, 10, "2 0 0 " + clause);
        }
    }

    /** "to strike out, b is the position of a clause". */
    private static void strikingThePositionOfAClause() {
        allowedAll(Q, 2, "2 1 0", "2 1 1", "2 1 2");
        refusedAll(Q, 10, "2 1 3", "2 1 -1", "2 1 MAX", "2 1 MIN");
        allowedAll(EIGHT, 2, "2 1 0", "2 1 7");
        refusedAll(EIGHT, 10, "2 1 8");
    }

    /** "and there are at least 2 clauses". */
    private static void strikingNeedsTwoClauses() {
        refusedAll(Scenes.ONE + Scenes.main(10), 10, "2 1 0", "2 1 1");
        allowedAll(Scenes.ONE + Scenes.main(10, 20), 2, "2 1 0", "2 1 1");
        refusedAll(Scenes.ONE + Scenes.main(10, 20) + Scenes.carried("2 1 0"), 10, "2 1 0");
        refusedAll(Q + "divide 1;", 10, "2 1 0");
    }

    /** "c is 0". */
    private static void strikingHasTheClauseNought() {
        refusedAll(Q, 10, "2 1 0 10", "2 1 0 1", "2 1 0 -1", "2 1 0 MIN", "2 1 2 30");
        allowedAll(Q, 2, "2 1 0 0");
    }

    /** "to replace, b is the position of a clause". */
    private static void replacingThePositionOfAClause() {
        allowedAll(Q, 2, "2 2 0 50", "2 2 2 50");
        refusedAll(Q, 10, "2 2 3 50", "2 2 -1 50", "2 2 MIN 50", "2 2 MAX 50");
        allowedAll(Scenes.ONE + Scenes.main(10), 2, "2 2 0 50");
        refusedAll(Scenes.ONE + Scenes.main(10), 10, "2 2 1 50");
        allowedAll(EIGHT, 2, "2 2 7 50");
        refusedAll(EIGHT, 10, "2 2 8 50");
    }

    /** "c is from 0 to 99 and another clause than that there". */
    private static void replacingByAnotherClause() {
        allowedAll(Q, 2, "2 2 0 0", "2 2 0 99", "2 2 0 20", "2 2 1 10");
        refusedAll(Q, 10, "2 2 0 10", "2 2 1 20", "2 2 2 30");
        for (String clause : NO_CLAUSE) {
            refusedAll(Q, 10, "2 2 0 " + clause);
        }
        String zero = Scenes.ONE + Scenes.main(0, 99);
        refusedAll(zero, 10, "2 2 0 0", "2 2 1 99");
        allowedAll(zero, 2, "2 2 0 99", "2 2 1 0");
    }

    /** "a is neither 1 nor above 2", nor below 0: it is no form then. */
    private static void secondaryForms() {
        String insert = Q + Scenes.made("2 0 0 50");
        allowedAll(insert, 3, "2 0 1 0", "2 2 0 51");
        for (String form : new String[] {"1", "3", "-1", "MIN", "MAX", "256"}) {
            refusedAll(insert, 10, "2 " + form + " 1 0", "2 " + form + " 0 51", "2 " + form + " 0 0");
        }
    }

    /** "a motion to amend made while a primary amendment is on top is always a secondary one". */
    private static void secondaryPositions() {
        String insert = Q + Scenes.made("2 0 1 50");
        refusedAll(insert, 10, "2 0 0 50", "2 1 0 0", "2 2 1 51", "2 2 2 31");
        Scenes.dueOf(insert + Scenes.made("2 0 0"), "pending 2 #", 2, 0, 0, 0, 0, 2);
        Scenes.dueOf(insert + Scenes.made("2 2 0 7"), "pending 2 #", 2, 0, 2, 0, 7, 2);
        Scenes.due(insert + Scenes.made("2 2 0 7"), "pending 1 5", 1);
    }

    /** "with a = 0 the position of the primary one becomes b": possible, and different. */
    private static void secondaryPositionsToInsert() {
        String insert = Q + Scenes.made("2 0 1 50");
        allowedAll(insert, 3, "2 0 0", "2 0 2", "2 0 3");
        refusedAll(insert, 10, "2 0 1", "2 0 4", "2 0 -1", "2 0 MIN", "2 0 MAX");
        String last = SEVEN + Scenes.made("2 0 7 50");
        allowedAll(last, 3, "2 0 0", "2 0 6");
        refusedAll(last, 10, "2 0 7", "2 0 8");
    }

    private static void secondaryPositionsToStrike() {
        String strike = Q + Scenes.made("2 1 1");
        allowedAll(strike, 3, "2 0 0", "2 0 2");
        refusedAll(strike, 10, "2 0 1", "2 0 3", "2 0 -1", "2 0 MIN", "2 0 MAX");
        // "for a = 2 it does not strike out"
        refusedAll(strike, 10, "2 2 0 0", "2 2 0 50", "2 2 0 20", "2 2 0 99");
    }

    private static void secondaryPositionsToReplace() {
        String replace = Scenes.ONE + Scenes.main(10, 20, 30, 40) + Scenes.made("2 2 1 30");
        allowedAll(replace, 3, "2 0 0", "2 0 3");
        refusedAll(replace, 10, "2 0 1", "2 0 2", "2 0 4", "2 0 -1", "2 0 MIN", "2 0 MAX");
    }

    /** "with a = 2 its clause becomes c": possible, and different. */
    private static void secondaryClauses() {
        String insert = Q + Scenes.made("2 0 1 50");
        allowedAll(insert, 3, "2 2 0 0", "2 2 0 99", "2 2 0 10", "2 2 0 20", "2 2 0 51");
        refusedAll(insert, 10, "2 2 0 50");
        for (String clause : NO_CLAUSE) {
            refusedAll(insert, 10, "2 2 0 " + clause);
        }
    }

    private static void secondaryClausesOfAReplacement() {
        String replace = Q + Scenes.made("2 2 1 50");
        allowedAll(replace, 3, "2 2 0 0", "2 2 0 99", "2 2 0 10", "2 2 0 30");
        refusedAll(replace, 10, "2 2 0 50", "2 2 0 20");
        for (String clause : NO_CLAUSE) {
            refusedAll(replace, 10, "2 2 0 " + clause);
        }
    }

    /** "and c is 0"; "and b is 0". */
    private static void secondaryHasTheOtherNumberNought() {
        String insert = Q + Scenes.made("2 0 1 50");
        refusedAll(insert, 10, "2 0 0 50", "2 0 0 1", "2 0 0 -1", "2 0 2 MIN");
        refusedAll(insert, 10, "2 2 1 51", "2 2 2 51", "2 2 -1 51", "2 2 MAX 51");
    }

    /** What an adopted secondary amendment changed is what the next one is compared with. */
    private static void aSecondSecondaryIsLookedAtAsItIsNow() {
        String moved = Q + Scenes.made("2 0 1 50") + Scenes.carried("2 0 3");
        refusedAll(moved, 10, "2 0 3", "2 2 0 50");
        allowedAll(moved, 3, "2 0 1", "2 2 0 51");
        String changed = Q + Scenes.made("2 2 1 50") + Scenes.carried("2 2 0 30");
        refusedAll(changed, 10, "2 2 0 30", "2 0 2");
        allowedAll(changed, 3, "2 2 0 50", "2 0 0");
        String kept = Q + Scenes.made("2 0 1 50") + Scenes.lost("2 0 3");
        refusedAll(kept, 10, "2 0 1");
        allowedAll(kept, 3, "2 0 3");
    }

    /** "to refer the question to the committee a, 0 to 3". */
    private static void committeesFromNoughtToThree() {
        allowedAll(Q, 2, "3 0", "3 1", "3 2", "3 3");
        refusedAll(Q, 10, "3 4", "3 100");
        for (String committee : FAR) {
            refusedAll(Q, 10, "3 " + committee);
        }
    }

    /** "3: the committee has no question (11)". */
    private static void theCommitteeHasNoQuestion() {
        for (int committee = 0; committee < 4; committee++) {
            String busy = Q + Scenes.carried("3 " + committee) + Scenes.main(5);
            for (int other = 0; other < 4; other++) {
                if (other == committee) {
                    refusedAll(busy, 11, "3 " + other);
                } else {
                    allowedAll(busy, 2, "3 " + other);
                }
            }
            String reported = Q + Scenes.carried("3 " + committee) + "report " + committee + ";";
            allowedAll(reported, 2, "3 " + committee);
            allowedAll(Q + "image;" + Scenes.carried("3 " + committee) + "undo;", 2, "3 " + committee);
        }
        allowedAll(Q + Scenes.carried("7") + Scenes.main(5), 2, "3 0", "3 3");
        allowedAll(Q + Scenes.carried("4 1") + Scenes.main(5), 2, "3 0", "3 1");
    }

    /** "4: a is greater than the present minute and not above 9999". */
    private static void minutesAheadUpToTheLast() {
        allowedAll(Q, 2, "4 1", "4 9999");
        refusedAll(Q, 10, "4 0", "4 10000", "4 -1", "4 MIN", "4 MAX");
        allowedAll(Q + "pass 500;", 2, "4 501", "4 9999");
        refusedAll(Q + "pass 500;", 10, "4 500", "4 499", "4 10000");
        allowedAll(Q + LATE + "pass 498;", 2, "4 9999");
        refusedAll(Q + LATE + "pass 498;", 10, "4 9998", "4 10000");
        refusedAll(Q + LATE + "pass 499;", 10, "4 9999", "4 10000", "4 9998");
    }

    /** "5: a is from 1 to 20". */
    private static void speechesFromOneToTwenty() {
        allowedAll(Q, 2, "5 1", "5 20");
        refusedAll(Q, 10, "5 0", "5 21", "5 -1", "5 MIN", "5 MAX");
    }

    /** "7: less than 3 are on the table (11)". */
    private static void lessThanThreeOnTheTable() {
        String laid = Scenes.main(5) + Scenes.carried("7");
        for (int n = 0; n < 3; n++) {
            Scenes.allowedKind(Scenes.ONE + Scenes.times(n, laid) + Scenes.main(6), "7", 2);
        }
        Scenes.refusedKind(Scenes.ONE + Scenes.times(3, laid) + Scenes.main(6), "7", 11);
        String taken = Scenes.ONE + Scenes.times(3, laid) + Scenes.carried("10");
        Scenes.allowedKind(taken, "7", 2);
        String elsewhere = Scenes.ONE + Scenes.times(2, laid) + Scenes.main(5) + Scenes.carried("3")
            + Scenes.main(5) + Scenes.carried("4 9");
        Scenes.allowedKind(elsewhere + Scenes.main(6), "7", 2);
    }

    /** "8: a is from 1 to 500". */
    private static void recessesFromOneToFiveHundred() {
        allowedAll(Scenes.ONE, 1, "8 1", "8 500");
        refusedAll(Scenes.ONE, 10, "8 0", "8 501", "8 -1", "8 MIN", "8 MAX");
        allowedAll(Q, 2, "8 1", "8 500");
        refusedAll(Q, 10, "8 0", "8 501");
    }

    /** "and the time would not be above 9999". */
    private static void recessesUpToTheLastMinute() {
        allowedAll(Scenes.ONE + LATE, 1, "8 499", "8 1");
        refusedAll(Scenes.ONE + LATE, 10, "8 500", "8 501", "8 MAX");
        allowedAll(Scenes.ONE + LATE + "pass 498;", 1, "8 1");
        refusedAll(Scenes.ONE + LATE + "pass 498;", 10, "8 2", "8 0");
        refusedAll(Scenes.ONE + LATE + "pass 499;", 10, "8 1", "8 0", "8 500");
    }

    /** "10: something lies on the table (11)". */
    private static void somethingLiesOnTheTable() {
        refusedAll(Scenes.ONE, 11, "10");
        refusedAll(Q + Scenes.carried("3"), 11, "10");
        refusedAll(Q + Scenes.carried("4 5"), 11, "10");
        refusedAll(Q + Scenes.carried("9") + "open;", 11, "10");
        allowedAll(Q + Scenes.carried("7"), 1, "10");
        refusedAll(Q + Scenes.carried("7") + Scenes.carried("10") + Scenes.AGAINST, 11, "10");
        allowedAll(Q + Scenes.carried("7") + Scenes.lost("10"), 1, "10");
    }

    /** "11: a main motion was decided by a vote (11 if none was, ahead of 10)". */
    private static void aMainMotionWasDecidedByAVote() {
        refusedAll(Scenes.ONE, 11, "11");
        refusedAll(Q + Scenes.carried("1"), 11, "11");
        refusedAll(Q + Scenes.carried("7"), 11, "11");
        refusedAll(Scenes.ONE + Scenes.carried("8 5"), 11, "11");
        refusedAll(Q + Scenes.carried("2 0 0 50") + Scenes.carried("3"), 11, "11");
        allowedAll(Q + Scenes.YES, 1, "11");
        allowedAll(Q + Scenes.AGAINST, 1, "11");
        allowedAll(Q + Scenes.YES + Scenes.main(5) + Scenes.carried("1"), 1, "11");
        refusedAll(Q + "image;" + Scenes.YES + "undo;" + Scenes.carried("1"), 11, "11");
    }

    /** "and voted with those that won": the no votes of a tie won, too. */
    private static void theMoverVotedWithThoseThatWon() {
        String three = "delegate 3; delegate 2; delegate 1;" + Scenes.main(10);
        reconsideredBy(three + "decide 1 2;", 0);
        reconsideredBy(three + "decide 2 1;", 0);
        reconsideredBy(three + "decide 1 6;", 1, 2);
        reconsideredBy(three + "decide 6 1;", 0);
        reconsideredBy(three + "decide 3 4;", 0, 1);
        reconsideredBy(three + "decide 7 0;", 0, 1, 2);
        reconsideredBy(three + "decide 0 7;", 0, 1, 2);
        reconsideredBy(three + "decide 0 0;");
    }

    /** Which of the delegates can make a motion to reconsider, the others by rule 10 not. */
    private static void reconsideredBy(String scene, int... delegates) {
        int count = Scenes.play(scene).count(2);
        for (int delegate = 0; delegate < count; delegate++) {
            boolean isOne = false;
            for (int one : delegates) {
                isOne |= one == delegate;
            }
            if (isOne) {
                Scenes.allowed(scene, delegate + " 11 0 0 0", 1);
            } else {
                Scenes.refused(scene, delegate + " 11 0 0 0", 10);
            }
        }
    }

    /** "the mover was present then": who was absent, or no delegate yet, was not. */
    private static void theMoverWasPresentThen() {
        String three = "delegate 3; delegate 2; delegate 1;" + Scenes.main(10);
        reconsideredBy(three + "presence 2 0; decide 5 0; presence 2 1;", 0);
        reconsideredBy(three + "presence 2 0; decide 0 7; presence 2 1;", 0, 1);
        reconsideredBy(three + "decide 7 0; delegate 1;", 0, 1, 2);
        Scenes.refused(three + "decide 7 0; presence 2 0;", "2 11 0 0 0", 2);
        Scenes.allowed(three + "decide 7 0; presence 2 0; presence 2 1;", "2 11 0 0 0", 1);
    }

    /** "and no motion to reconsider that decision was made before (10)". */
    private static void noMotionToReconsiderThatDecision() {
        refusedAll(Q + Scenes.YES + Scenes.lost("11"), 10, "11");
        refusedAll(Q + Scenes.YES + Scenes.carried("11") + Scenes.carried("7"), 10, "11");
        refusedAll(Q + Scenes.YES + Scenes.carried("11") + Scenes.carried("1"), 10, "11");
        allowedAll(Q + Scenes.YES + Scenes.carried("11") + Scenes.YES, 1, "11");
        allowedAll(Q + Scenes.YES + Scenes.lost("11") + Scenes.main(5) + Scenes.AGAINST, 1, "11");
        allowedAll(Q + Scenes.YES + "image;" + Scenes.lost("11") + "undo;", 1, "11");
        refusedAll(Q + Scenes.YES + Scenes.lost("11") + "image; undo;", 10, "11");
        String three = "delegate 1; delegate 1; delegate 1;" + Scenes.main(10) + "decide 7 0;";
        reconsideredBy(three + "move 0 11 0 0 0; decide 0 7;");
    }

    /** Promise 15: "2, 3, 4 its numbers a, b, c as they are now". */
    private static void numbersOfPendingMotions() {
        String[] motions = {"1", "3 2", "4 9999", "5 20", "7", "8 500", "9"};
        for (String motion : motions) {
            String[] words = (motion + " 0").split(" ");
            Scenes.dueOf(Q + Scenes.made(motion), "pending 1 #", Integer.parseInt(words[0]), 0,
                Integer.parseInt(words[1]), 0, 0, 0);
        }
        Scenes.dueOf(Q, "pending 0 #", 0, 0, 0, 0, 0, 0);
        Scenes.dueOf(Q + Scenes.made("2 1 2"), "pending 1 #", 2, 0, 1, 2, 0, 1);
        String moved = Q + Scenes.made("2 2 1 50") + Scenes.carried("2 0 2");
        Scenes.dueOf(moved, "pending 1 #", 2, 0, 2, 2, 50, 1);
        Scenes.dueOf(moved + Scenes.carried("2 2 0 99"), "pending 1 #", 2, 0, 2, 2, 99, 1);
        Scenes.dueOf(moved + Scenes.lost("2 2 0 99"), "pending 1 #", 2, 0, 2, 2, 50, 1);
    }

    /** Promise 15: "-1 for the number"; "NONE if there is no such motion or what is invalid". */
    private static void noSuchPendingMotion() {
        for (String what : new String[] {"0", "5", "-1", "6", "MIN", "MAX"}) {
            Scenes.due(Scenes.ONE, "pending -1 " + what, 0);
            Scenes.due(Q, "pending -1 " + what, 1);
            Scenes.due(Scenes.ONE, "pending 0 " + what, Scenes.NONE);
            Scenes.due(Q, "pending 1 " + what, Scenes.NONE);
            Scenes.due(Q, "pending -2 " + what, Scenes.NONE);
            Scenes.due(Q, "pending MIN " + what, Scenes.NONE);
            Scenes.due(Q, "pending MAX " + what, Scenes.NONE);
        }
        for (String what : new String[] {"-1", "6", "MIN", "MAX"}) {
            Scenes.due(Q, "pending 0 " + what, Scenes.NONE);
        }
    }

    /** "above it, each motion has a higher kind than the one below", but for an amendment. */
    private static void theHighestStack() {
        StringBuilder stack = new StringBuilder(Q);
        for (int kind = 1; kind <= 9; kind++) {
            stack.append(Scenes.made(Scenes.possible(kind)));
            stack.append(kind == 2 ? Scenes.made("2 2 0 51") : "");
        }
        String high = stack.toString();
        Scenes.pendingDue(high, 0, 1, 2, 2, 3, 4, 5, 6, 7, 8, 9);
        Scenes.due(high, "pending -1 0", 11);
        Scenes.due(high, "pending 10 0", 9);
        Scenes.due(high, "pending 11 0", Scenes.NONE);
        Scenes.dueOf(high, "pending # 5", 0, 0, 1, 2, 0, 0, 0, 0, 0, 0, 0, -1);
        Scenes.due(high, "draft 0", 51);
        Scenes.due(high, "count 16", 11);
        Scenes.pendingDue(high + Scenes.YES + "open; next;", 0, 1, 2, 2, 3, 4, 5, 6, 7, 8);
        Scenes.pendingDue(high + Scenes.times(10, Scenes.AGAINST), 0);
        Scenes.pendingDue(high + Scenes.times(11, Scenes.AGAINST));
    }
}
