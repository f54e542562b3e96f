/** Decisions, promises 7 and 22: a test for each sentence that names an edge. */
public final class DecisionsEdgeTest {
    private static final String Q = Scenes.ONE + Scenes.main(10, 20, 30);
    private static final String TWELVE = Scenes.times(12, "delegate 1;") + Scenes.main(10);
    /** The minute 9500. */
    private static final String LATE = Scenes.times(19, "pass 500;");

    private DecisionsEdgeTest() { }

    public static void main(String[] args) {
        setsOfDelegates();
        noDelegateInBoth();
        badIsAheadOfState();
        noMotionIsPending();
        noQuorumAndNeitherEightNorNine();
        moreWeightThanTheNoVotes();
        twiceTheWeightAndMoreThanNought();
        votesOfAbsentOnesDoNotCount();
        aDecidedMotionIsPendingNoMore();
        theTextBecomesAResolution();
        theQuestionIsDropped();
        theTextIsChanged();
        thePrimaryAmendmentIsChanged();
        allThatIsPendingGoesAway();
        theMinutesPass();
        theMinutesPassUpToTheLastAtMost();
        allThatIsPendingWaitsForThePresentMinute();
        whatWasLaidThereLast();
        theQuestionComesUpAgain();
        theResolutionIsNoMore();
        aNextPartComesUpAtOnce();
        numbersOfTheLatestDecision();
        theShareOfTheYesVotes();
        Checks.finish();
    }

    /** "BAD if a set contains others than delegates": the highest bit that is one, and the next. */
    private static void setsOfDelegates() {
        Scenes.due(TWELVE, "decide 4095 0", 1);
        Scenes.due(TWELVE, "decide 0 4095", 0);
        Scenes.due(TWELVE, "decide 2048 0", 1);
        for (String set : new String[] {"4096", "8191", "-1", "MIN", "MAX", "65536"}) {
            Scenes.due(TWELVE, "decide " + set + " 0", Scenes.BAD);
            Scenes.due(TWELVE, "decide 0 " + set, Scenes.BAD);
        }
        Scenes.due(Q, "decide 2 0", Scenes.BAD);
        Scenes.due(Q, "decide 0 2", Scenes.BAD);
        Scenes.due(Q, "decide 3 0", Scenes.BAD);
        Scenes.due(Q, "decide 1 2", Scenes.BAD);
        Scenes.due(Q, "decide 0 0", 0);
    }

    /** "or both have a delegate in common". */
    private static void noDelegateInBoth() {
        Scenes.due(Q, "decide 1 1", Scenes.BAD);
        Scenes.due(TWELVE, "decide 3 6", Scenes.BAD);
        Scenes.due(TWELVE, "decide 4095 2048", Scenes.BAD);
        Scenes.due(TWELVE, "decide 2047 2048", 1);
        Scenes.due("delegate 1; delegate 1; presence 1 0;" + Scenes.main(10), "decide 2 2", Scenes.BAD);
    }

    /** "BAD ..; STATE if no motion is pending, or there is no quorum", in this order. */
    private static void badIsAheadOfState() {
        Scenes.due("", "decide 1 0", Scenes.BAD);
        Scenes.due(Scenes.ONE, "decide 2 0", Scenes.BAD);
        Scenes.due(Scenes.ONE, "decide 1 1", Scenes.BAD);
        Scenes.due(Q + "presence 0 0; quorum 100;", "decide 1 1", Scenes.BAD);
        Scenes.due(Q + "presence 0 0; quorum 100;", "decide 0 2", Scenes.BAD);
    }

    /** "STATE if no motion is pending". */
    private static void noMotionIsPending() {
        Scenes.due("", "decide 0 0", Scenes.STATE);
        Scenes.due(Scenes.ONE, "decide 1 0", Scenes.STATE);
        Scenes.due(Q + Scenes.YES, "decide 1 0", Scenes.STATE);
        Scenes.due(Q + Scenes.carried("7"), "decide 1 0", Scenes.STATE);
        Scenes.due(Q + Scenes.carried("9"), "decide 1 0", Scenes.STATE);
    }

    /** "or there is no quorum and the kind is neither 8 nor 9". */
    private static void noQuorumAndNeitherEightNorNine() {
        String two = "delegate 1; delegate 1;";
        String half = "presence 1 0; quorum 50;";
        String less = "presence 1 0; quorum 51;";
        String table = two + Scenes.main(10, 20, 30) + "move 0 7 0 0 0; decide 3 0;";
        String decided = two + Scenes.main(10, 20, 30) + "decide 3 0;";
        for (int kind = 0; kind <= 11; kind++) {
            String scene = kind == 10 ? table : kind == 11 ? decided
                : two + Scenes.main(10, 20, 30);
            String motion = kind == 0 ? "" : Scenes.made(Scenes.possible(kind));
            Scenes.due(scene + motion + half, "decide 1 0", 1);
            boolean isDecided = kind == 8 || kind == 9;
            Scenes.due(scene + motion + less, "decide 1 0", isDecided ? 1 : Scenes.STATE);
            Scenes.due(scene + motion + less, "decide 0 1", isDecided ? 0 : Scenes.STATE);
        }
        Scenes.due(two + Scenes.made("8 5") + "presence 0 0; presence 1 0;", "decide 3 0", 0);
    }

    /** "It is adopted if the yes votes have more weight than the no votes". */
    private static void moreWeightThanTheNoVotes() {
        String three = "delegate 3; delegate 2; delegate 1;" + Scenes.main(10, 20, 30);
        String table = three + "move 0 7 0 0 0; decide 7 0;";
        String decided = three + "decide 7 0;";
        for (int kind : new int[] {0, 1, 2, 3, 4, 7, 8, 9, 10, 11}) {
            String scene = kind == 10 ? table : kind == 11 ? decided : three;
            String top = scene + (kind == 0 ? "" : Scenes.made(Scenes.possible(kind)));
            Scenes.due(top, "decide 1 6", 0);
            Scenes.due(top, "decide 6 1", 0);
            Scenes.due(top, "decide 0 0", 0);
            Scenes.due(top, "decide 1 2", 1);
            Scenes.due(top, "decide 2 1", 0);
            Scenes.due(top, "decide 4 0", 1);
            Scenes.due(top, "decide 0 4", 0);
        }
    }

    /** "for 5 and 6, if they have at least twice the weight of the no votes, and more than 0". */
    private static void twiceTheWeightAndMoreThanNought() {
        String four = "delegate 4; delegate 3; delegate 2; delegate 1;" + Scenes.main(10);
        for (int kind = 5; kind <= 6; kind++) {
            String top = four + Scenes.made(Scenes.possible(kind));
            Scenes.due(top, "decide 1 4", 1);
            Scenes.due(top, "decide 2 4", 0);
            Scenes.due(top, "decide 9 4", 1);
            Scenes.due(top, "decide 1 2", 0);
            Scenes.due(top, "decide 5 2", 1);
            Scenes.due(top, "decide 1 12", 0);
            Scenes.due(top, "decide 4 8", 1);
            Scenes.due(top, "decide 0 0", 0);
            Scenes.due(top, "decide 8 0", 1);
            Scenes.due(top, "decide 0 8", 0);
            Scenes.due(top + "presence 0 0;", "decide 1 0", 0);
        }
    }

    /** "votes of absent ones do not count". */
    private static void votesOfAbsentOnesDoNotCount() {
        String three = "delegate 3; delegate 2; delegate 1;" + Scenes.main(10);
        Scenes.due(three + "presence 0 0;", "decide 1 4", 0);
        Scenes.due(three + "presence 0 0;", "decide 4 1", 1);
        Scenes.due(three + "presence 0 0;", "decide 1 0", 0);
        String voted = three + "presence 0 0; decide 5 2;";
        Scenes.dueOf(voted, "vote #", 1, 2, 0, 0, 0);
        Scenes.dueOf(three + "presence 0 0; decide 2 5;", "vote #", 2, 1, 0, 1, 0);
    }

    /** "A decided motion is pending no more." */
    private static void aDecidedMotionIsPendingNoMore() {
        for (int kind : new int[] {1, 2, 3, 4, 5, 6, 7, 8, 9}) {
            Scenes.pendingDue(Q + Scenes.lost(Scenes.possible(kind)), 0);
        }
        for (int kind : new int[] {2, 5, 6, 8}) {
            Scenes.pendingDue(Q + Scenes.carried(Scenes.possible(kind)), 0);
        }
        Scenes.pendingDue(Q + Scenes.YES);
        Scenes.pendingDue(Q + Scenes.AGAINST);
        Scenes.pendingDue(Q + Scenes.carried("7") + Scenes.lost("10"));
        Scenes.pendingDue(Q + Scenes.YES + Scenes.lost("11"));
        Scenes.pendingDue(Q + Scenes.made("1") + Scenes.lost("7"), 0, 1);
    }

    /** "0 the text becomes a resolution". */
    private static void theTextBecomesAResolution() {
        Scenes.due(Q + Scenes.YES, "count 7", 1);
        Scenes.dueOf(Q + Scenes.YES, "question 0 #", 4, 0, 0, -5, 0);
        Scenes.dueOf(Q + Scenes.YES, "resolution 0 #", 10, 20, 30, -1);
        Scenes.due(Q + Scenes.AGAINST, "count 7", 0);
        Scenes.dueOf(Q + Scenes.AGAINST, "question 0 #", 5, -5, 0, -5, 0);
        String all = Scenes.times(20, Scenes.main(10) + Scenes.YES);
        Scenes.due(Scenes.ONE + all, "count 7", 20);
        Scenes.due(Scenes.ONE + all, "question 19 1", 19);
        Scenes.due(Scenes.ONE + all, "resolution 19 -2", 19);
        Scenes.due(Scenes.ONE + all, "resolution 20 -2", Scenes.NONE);
    }

    /** "1 the question is dropped", whatever was pending on it was decided before. */
    private static void theQuestionIsDropped() {
        Scenes.pendingDue(Q + Scenes.carried("1"));
        Scenes.dueOf(Q + Scenes.carried("1"), "question 0 #", 6, -5, 0, -5, 0);
        Scenes.due(Q + Scenes.carried("1"), "count 17", 1);
        Scenes.due(Q + Scenes.carried("1"), "count 15", 0);
        Scenes.due(Q + Scenes.carried("1"), "count 7", 0);
        Scenes.due(Q + Scenes.lost("1"), "count 17", 0);
        Scenes.due(Q + Scenes.made("1") + Scenes.carried("2 0 0 5") + Scenes.YES, "count 17", 1);
    }

    /** "2 the text .. is changed", at its first and its last position. */
    private static void theTextIsChanged() {
        Scenes.textDue(Q + Scenes.carried("2 0 0 50"), 0, 50, 10, 20, 30);
        Scenes.textDue(Q + Scenes.carried("2 0 3 50"), 0, 10, 20, 30, 50);
        Scenes.textDue(Q + Scenes.carried("2 1 0"), 0, 20, 30);
        Scenes.textDue(Q + Scenes.carried("2 1 2"), 0, 10, 20);
        Scenes.textDue(Q + Scenes.carried("2 1 1"), 0, 10, 30);
        Scenes.textDue(Q + Scenes.carried("2 2 0 50"), 0, 50, 20, 30);
        Scenes.textDue(Q + Scenes.carried("2 2 2 0"), 0, 10, 20, 0);
        Scenes.textDue(Q + Scenes.lost("2 2 2 0"), 0, 10, 20, 30);
        Scenes.due(Q + Scenes.carried("2 2 2 0"), "question 0 4", 1);
        Scenes.due(Q + Scenes.lost("2 2 2 0"), "question 0 4", 0);
        Scenes.due(Q + Scenes.carried("2 2 2 0") + Scenes.carried("2 1 2"), "question 0 4", 2);
    }

    /** "or the primary amendment, is changed". */
    private static void thePrimaryAmendmentIsChanged() {
        String second = Q + Scenes.made("2 0 1 50") + Scenes.carried("2 0 3");
        Scenes.pendingDue(second, 0, 2);
        Scenes.textDue(second, 0, 10, 20, 30);
        Scenes.textDue(second + Scenes.YES, 0, 10, 20, 30, 50);
        Scenes.textDue(second + Scenes.carried("2 2 0 0") + Scenes.YES, 0, 10, 20, 30, 0);
        Scenes.textDue(second + Scenes.lost("2 0 0") + Scenes.YES, 0, 10, 20, 30, 50);
        Scenes.textDue(second + Scenes.AGAINST, 0, 10, 20, 30);
        Scenes.due(second, "question 0 4", 0);
        Scenes.due(second + Scenes.YES, "question 0 4", 1);
        Scenes.textDue(Q + Scenes.made("2 1 0") + Scenes.carried("2 0 2") + Scenes.YES, 0, 10, 20);
    }

    /** "3, 4, 7 all that is pending goes to the committee, waits .., or lies on the table". */
    private static void allThatIsPendingGoesAway() {
        String stack = Q + Scenes.made("1") + Scenes.made("2 0 0 50") + Scenes.made("2 2 0 51");
        for (int committee = 0; committee < 4; committee++) {
            String referred = stack + Scenes.carried("3 " + committee);
            Scenes.pendingDue(referred);
            Scenes.dueOf(referred, "question 0 #", 1, committee, 0, -5, 0);
            Scenes.due(referred, "count 10", 1);
            Scenes.due(referred, "count 16", 4);
            Scenes.pendingDue(referred + "report " + committee + ";", 0, 1, 2, 2);
        }
        String postponed = stack + Scenes.made("3") + Scenes.carried("4 9");
        Scenes.pendingDue(postponed);
        Scenes.dueOf(postponed, "question 0 #", 2, 9, 0, -5, 0);
        Scenes.due(postponed, "count 9", 1);
        Scenes.due(postponed, "count 16", 5);
        Scenes.pendingDue(postponed + "pass 9; next;", 0, 1, 2, 2, 3);
        String laid = stack + Scenes.made("6") + Scenes.carried("7");
        Scenes.pendingDue(laid);
        Scenes.dueOf(laid, "question 0 #", 3, -5, 0, -5, 0);
        Scenes.due(laid, "count 8", 1);
        Scenes.due(laid, "count 16", 5);
        Scenes.pendingDue(laid + Scenes.carried("10"), 0, 1, 2, 2, 6);
    }

    /** "8 the minutes pass, .. and what is pending stays so". */
    private static void theMinutesPass() {
        Scenes.due(Scenes.ONE + Scenes.carried("8 1"), "count 0", 1);
        Scenes.due(Scenes.ONE + Scenes.carried("8 500"), "count 0", 500);
        Scenes.due(Scenes.ONE + Scenes.lost("8 500"), "count 0", 0);
        Scenes.due(Scenes.ONE + Scenes.made("8 500"), "count 0", 0);
        Scenes.pendingDue(Q + Scenes.made("7") + Scenes.carried("8 5"), 0, 7);
        Scenes.due(Scenes.ONE + Scenes.carried("8 5"), "count 1", 1);
    }

    /** "up to the minute 9999 at most": a recess that was possible when it was made. */
    private static void theMinutesPassUpToTheLastAtMost() {
        Scenes.due(Scenes.ONE + LATE + Scenes.carried("8 499"), "count 0", 9999);
        String made = Scenes.ONE + LATE + Scenes.made("8 300");
        Scenes.due(made + "pass 198;" + Scenes.YES, "count 0", 9998);
        Scenes.due(made + "pass 199;" + Scenes.YES, "count 0", 9999);
        Scenes.due(made + "pass 200;" + Scenes.YES, "count 0", 9999);
        Scenes.due(made + "pass 499;" + Scenes.YES, "count 0", 9999);
        Scenes.due(made + "pass 499;" + Scenes.YES, "pass 1", Scenes.FULL);
        Scenes.due(made + "pass 499;" + Scenes.AGAINST, "count 0", 9999);
    }

    /** "9 the meeting is closed, and all that is pending, if anything is, waits". */
    private static void allThatIsPendingWaitsForThePresentMinute() {
        String stack = Q + "pass 8;" + Scenes.made("1") + Scenes.made("8 5") + Scenes.carried("9");
        Scenes.due(stack, "count 1", 0);
        Scenes.pendingDue(stack);
        Scenes.dueOf(stack, "question 0 #", 2, 8, 0, -5, 0);
        Scenes.due(stack, "count 9", 1);
        Scenes.due(stack, "count 16", 3);
        Scenes.pendingDue(stack + "open; next;", 0, 1, 8);
        Scenes.due(Scenes.ONE + Scenes.carried("9"), "count 9", 0);
        Scenes.due(Scenes.ONE + Scenes.carried("9") + "open;", "next", Scenes.NOTHING);
        Scenes.due(Scenes.ONE + Scenes.made("8 5") + Scenes.carried("9"), "count 9", 1);
        Scenes.due(Scenes.ONE + Scenes.lost("9"), "count 1", 1);
        Scenes.pendingDue(Q + Scenes.lost("9"), 0);
    }

    /** "10 what was laid there last is pending again". */
    private static void whatWasLaidThereLast() {
        String three = Scenes.ONE + Scenes.main(1) + Scenes.carried("7") + Scenes.main(2)
            + Scenes.carried("7") + Scenes.main(3) + Scenes.carried("7");
        String last = three + Scenes.carried("10");
        Scenes.due(last, "question 2 0", 0);
        Scenes.due(last, "count 8", 2);
        Scenes.due(last + Scenes.AGAINST + Scenes.carried("10"), "question 1 0", 0);
        Scenes.due(last + Scenes.carried("7") + Scenes.carried("10"), "question 2 0", 0);
        String first = last + Scenes.AGAINST + Scenes.carried("10") + Scenes.AGAINST
            + Scenes.carried("10");
        Scenes.due(first, "question 0 0", 0);
        Scenes.due(first, "count 8", 0);
        Scenes.due(three + Scenes.lost("10"), "count 8", 3);
        Scenes.due(last, "count 18", 0);
    }

    /** "11 the question that was decided comes up again, with its number, its text and its mover". */
    private static void theQuestionComesUpAgain() {
        String two = "delegate 2; delegate 1; clause 10; clause 20; move 1 0 0 0 0;"
            + Scenes.carried("2 0 0 50") + "speak 1;";
        for (String end : new String[] {Scenes.YES, Scenes.AGAINST}) {
            String again = two + end + Scenes.carried("11");
            Scenes.pendingDue(again, 0);
            Scenes.due(again, "pending 0 1", 1);
            Scenes.dueOf(again, "question 0 #", 0, -5, 1, -5, 1);
            Scenes.textDue(again, 0, 50, 10, 20);
            Scenes.due(again, "count 6", 1);
            Scenes.due(again, "count 7", 0);
            Scenes.due(again, "count 18", 1);
            Scenes.due(two + end + Scenes.lost("11"), "count 18", 0);
            Scenes.due(two + end + Scenes.made("11"), "count 18", 0);
        }
        Scenes.due(two + Scenes.YES + Scenes.lost("11"), "count 7", 1);
        Scenes.due(two + Scenes.YES + Scenes.made("11"), "question 0 0", 4);
    }

    /**
     * "a resolution that it became is no more". The main motion decided last is the last
     * resolution, if it is one: those ahead keep their numbers, and the next gets the one freed.
     */
    private static void theResolutionIsNoMore() {
        String three = Scenes.ONE + Scenes.main(1) + Scenes.YES + Scenes.main(2) + Scenes.YES
            + Scenes.main(3) + Scenes.YES;
        String again = three + Scenes.carried("11");
        Scenes.due(again, "count 7", 2);
        Scenes.dueOf(again, "question # 1", 0, 1, -5);
        Scenes.due(again, "resolution 2 0", Scenes.NONE);
        Scenes.due(again, "resolution 1 0", 2);
        Scenes.due(again + Scenes.YES, "question 2 1", 2);
        String rejected = Scenes.ONE + Scenes.main(1) + Scenes.YES + Scenes.main(2) + Scenes.AGAINST;
        Scenes.due(rejected + Scenes.carried("11"), "count 7", 1);
        Scenes.due(rejected + Scenes.carried("11"), "resolution 0 0", 1);
    }

    /** "and has a next part, that comes up at once, and it has none any more". */
    private static void aNextPartComesUpAtOnce() {
        String[] ends = {Scenes.YES, Scenes.AGAINST, Scenes.carried("1")};
        int[] states = {4, 5, 6};
        for (int i = 0; i < ends.length; i++) {
            String ended = Q + "divide 2; divide 1;" + ends[i];
            Scenes.pendingDue(ended, 0);
            Scenes.due(ended, "question 0 0", states[i]);
            Scenes.due(ended, "question 0 3", Scenes.NOTHING);
            Scenes.due(ended, "question 2 0", 0);
            Scenes.due(ended, "question 2 3", 1);
            Scenes.due(ended, "question 1 0", 7);
            Scenes.due(ended, "count 18", 1);
            Scenes.due(ended + ends[i], "question 1 0", 0);
            Scenes.due(ended + ends[i], "count 18", 2);
            Scenes.pendingDue(ended + ends[i] + ends[i]);
            Scenes.due(ended + ends[i] + ends[i], "count 18", 2);
        }
        Scenes.due(Q + "divide 1;" + Scenes.carried("7"), "question 1 0", 7);
        Scenes.pendingDue(Q + "divide 1;" + Scenes.carried("3"));
        Scenes.pendingDue(Q + "divide 1;" + Scenes.YES + Scenes.carried("7") + Scenes.carried("11")
            + Scenes.YES);
    }

    /** Promise 22: "STATE if nothing was decided; NONE if what is invalid", in this order. */
    private static void numbersOfTheLatestDecision() {
        for (String what : new String[] {"0", "5", "6", "-1", "MAX", "MIN"}) {
            Scenes.due(Q, "vote " + what, Scenes.STATE);
            Scenes.due(Q + "image;" + Scenes.YES + "undo;", "vote " + what, Scenes.STATE);
        }
        String five = "delegate 5; delegate 3; delegate 2; delegate 1; presence 3 0;"
            + Scenes.main(10) + Scenes.made("7") + "decide 9 2;";
        Scenes.dueOf(five, "vote #", 5, 3, 2, 1, 7, Float.floatToIntBits(5f / 8f), -1);
        for (String what : new String[] {"6", "-1", "MAX", "MIN"}) {
            Scenes.due(five, "vote " + what, Scenes.NONE);
        }
        Scenes.due(five + "presence 2 0; presence 3 1;", "vote 2", 2);
        Scenes.dueOf(five + Scenes.made("10") + "decide 0 2;", "vote #", 0, 3, 7, 0, 10, 0);
    }

    /** "the share of the yes votes in all votes, as a float, .. those of 0 if there were no votes". */
    private static void theShareOfTheYesVotes() {
        Scenes.due(Q + "decide 0 0;", "vote 5", 0);
        Scenes.due(Q + Scenes.AGAINST, "vote 5", 0);
        Scenes.due(Q + Scenes.YES, "vote 5", 0x3f800000);
        String all = "delegate 1;" + Scenes.times(11, "delegate 9;") + Scenes.main(10);
        for (int yes : new int[] {1, 2, 3, 4094, 2047, 1365, 4, 64}) {
            int no = 4095 & ~yes;
            int weight = (yes & 1) + 9 * Integer.bitCount(yes & ~1);
            int due = Float.floatToIntBits((float) weight / 100f);
            Scenes.due(all + "decide " + yes + " " + no + ";", "vote 5", due);
        }
        String three = "delegate 1; delegate 2;" + Scenes.main(10);
        Scenes.due(three + "decide 1 2;", "vote 5", Float.floatToIntBits(1f / 3f));
        Scenes.due(three + "decide 2 1;", "vote 5", Float.floatToIntBits(2f / 3f));
    }
}
