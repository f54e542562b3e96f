/** Debate, promise 8 with the counts 11 and 12: a test for each sentence that names an edge. */
public final class DebateEdgeTest {
    private static final String Q = Scenes.ONE + Scenes.main(10, 20, 30);
    private static final String TWO = "delegate 1; delegate 1;" + Scenes.main(10, 20, 30);
    private static final String CLOSED = Q + Scenes.carried("6");

    private DebateEdgeTest() { }

    public static void main(String[] args) {
        aPresentDelegate();
        whileAQuestionIsPending();
        whateverLiesOnIt();
        debateIsNotClosed();
        andThereIsAQuorum();
        orTheMeetingIsClosed();
        noSuchDelegateIsAheadOfState();
        theNumberOfSpeechesOfThisDelegate();
        eachSpeechUsesUpOne();
        theLowestAndTheHighestLimit();
        aRefusedSpeechUsesUpNone();
        inPlaceOfAnEarlierOne();
        closedWhenNoneIsLeft();
        aRejectedLimitIsNone();
        speechesThatAreLeft();
        notClosedWhenAQuestionComesUp();
        notClosedWhenAQuestionIsTakenUp();
        whatDoesNotOpenDebate();
        Checks.finish();
    }

    /** "A present delegate can speak". */
    private static void aPresentDelegate() {
        Scenes.due(TWO, "speak 1", 1);
        Scenes.due(TWO + "presence 1 0;", "speak 1", Scenes.STATE);
        Scenes.due(TWO + "presence 1 0;", "speak 0", 1);
        Scenes.due(TWO + "presence 1 0; presence 1 1;", "speak 1", 1);
    }

    /** "while a question is pending". */
    private static void whileAQuestionIsPending() {
        String[] without = {Scenes.ONE, Scenes.ONE + Scenes.made("8 5"), Scenes.ONE + Scenes.made("9"),
            Q + Scenes.YES, Q + Scenes.carried("1"), Q + Scenes.carried("7"), Q + Scenes.carried("3"),
            Q + Scenes.carried("4 5"), Q + Scenes.carried("7") + Scenes.made("10"),
            Q + Scenes.YES + Scenes.made("11")};
        for (String scene : without) {
            Scenes.due(scene, "speak 0", Scenes.STATE);
            Scenes.due(scene, "count 11", Scenes.NOTHING);
            Scenes.due(scene, "count 12", 0);
        }
        Scenes.due(Q, "speak 0", 1);
    }

    /** "whatever lies on it". */
    private static void whateverLiesOnIt() {
        for (int kind = 1; kind <= 9; kind++) {
            Scenes.due(Q + Scenes.made(Scenes.possible(kind)), "speak 0", 1);
        }
        Scenes.due(Q + Scenes.made("2 0 0 50") + Scenes.made("2 2 0 51"), "speak 0", 1);
        StringBuilder all = new StringBuilder(Q);
        for (int kind = 1; kind <= 9; kind++) {
            all.append(Scenes.made(Scenes.possible(kind)));
        }
        Scenes.due(all.toString(), "speak 0", 1);
    }

    /** "debate is not closed". */
    private static void debateIsNotClosed() {
        Scenes.due(CLOSED, "speak 0", Scenes.STATE);
        Scenes.due(CLOSED, "count 12", 1);
        Scenes.due(Q, "count 12", 0);
        Scenes.due(Q + Scenes.made("6"), "speak 0", 1);
        Scenes.due(Q + Scenes.lost("6"), "speak 0", 1);
        Scenes.due(Q + Scenes.lost("6"), "count 12", 0);
    }

    /** "and there is a quorum". */
    private static void andThereIsAQuorum() {
        Scenes.due(TWO + "presence 1 0; quorum 50;", "speak 0", 1);
        Scenes.due(TWO + "presence 1 0; quorum 51;", "speak 0", Scenes.STATE);
        Scenes.due(TWO + "quorum 100;", "speak 0", 1);
    }

    /** "STATE if the delegate must not speak now, or the meeting is closed." */
    private static void orTheMeetingIsClosed() {
        Scenes.due(Q + Scenes.carried("9"), "speak 0", Scenes.STATE);
        Scenes.due(Scenes.ONE + Scenes.carried("9"), "speak 0", Scenes.STATE);
        Scenes.due(Q + Scenes.carried("9") + "open; next;", "speak 0", 1);
    }

    /** "NONE if there is no such delegate; STATE", in this order. */
    private static void noSuchDelegateIsAheadOfState() {
        Scenes.due(Scenes.ONE, "speak 1", Scenes.NONE);
        Scenes.due(CLOSED, "speak 1", Scenes.NONE);
        Scenes.due(CLOSED, "speak -1", Scenes.NONE);
        Scenes.due(Scenes.ONE + Scenes.carried("9"), "speak MAX", Scenes.NONE);
        Scenes.due(TWO + "presence 1 0; quorum 100;", "speak 2", Scenes.NONE);
    }

    /** "Returns the number of speeches of this delegate so far", on whatever question. */
    private static void theNumberOfSpeechesOfThisDelegate() {
        Scenes.due(TWO + "speak 0; speak 0;", "speak 0", 3);
        Scenes.due(TWO + "speak 0; speak 0;", "speak 1", 1);
        Scenes.due(TWO + "speak 0; decide 0 3;" + Scenes.main(5), "speak 0", 2);
        Scenes.due(TWO + "speak 0; presence 0 0; presence 0 1;", "speak 0", 2);
        Scenes.due(TWO + "image; speak 0; undo;", "speak 0", 1);
        Scenes.due(Q + Scenes.times(130, "speak 0;"), "speak 0", 131);
        Scenes.due(Q + "speak 0; speak 0; delegate 3;", "speak 1", 1);
    }

    /** "With a limit, each speech uses up one", of whatever delegate. */
    private static void eachSpeechUsesUpOne() {
        String limit = TWO + "move 0 5 3 0 0; decide 3 0;";
        Scenes.due(limit, "count 11", 3);
        Scenes.due(limit + "speak 0;", "count 11", 2);
        Scenes.due(limit + "speak 0; speak 1;", "count 11", 1);
        Scenes.due(limit + "speak 0; speak 1;", "speak 1", 2);
        Scenes.due(limit + "speak 0; speak 1; speak 1;", "count 11", 0);
        Scenes.due(limit + "speak 0; speak 1; speak 1;", "speak 0", Scenes.STATE);
    }

    /** "5 to limit debate to a more speeches", 1 to 20. */
    private static void theLowestAndTheHighestLimit() {
        Scenes.due(Q + Scenes.carried("5 1"), "speak 0", 1);
        Scenes.due(Q + Scenes.carried("5 1") + "speak 0;", "speak 0", Scenes.STATE);
        String twenty = Q + "speak 0;" + Scenes.carried("5 20");
        Scenes.due(twenty, "count 11", 20);
        Scenes.due(twenty + Scenes.times(19, "speak 0;"), "count 11", 1);
        Scenes.due(twenty + Scenes.times(19, "speak 0;"), "count 12", 0);
        Scenes.due(twenty + Scenes.times(19, "speak 0;"), "speak 0", 21);
        Scenes.due(twenty + Scenes.times(20, "speak 0;"), "speak 0", Scenes.STATE);
        Scenes.due(twenty + Scenes.times(20, "speak 0;"), "count 11", 0);
    }

    /** "A call that returns an error code leaves the state unchanged", the limit too. */
    private static void aRefusedSpeechUsesUpNone() {
        String limit = TWO + "move 0 5 2 0 0; decide 3 0; presence 1 0;";
        Scenes.due(limit, "speak 1", Scenes.STATE);
        Scenes.due(limit, "speak 2", Scenes.NONE);
        Scenes.due(limit + "quorum 51;", "speak 0", Scenes.STATE);
        Scenes.due(limit + "move 0 6 0 0 0; decide 1 0;", "speak 0", Scenes.STATE);
    }

    /** "5 the limit is set, in place of an earlier one". */
    private static void inPlaceOfAnEarlierOne() {
        Scenes.due(Q + Scenes.carried("5 5") + "speak 0;" + Scenes.carried("5 2"), "count 11", 2);
        Scenes.due(Q + Scenes.carried("5 2") + "speak 0;" + Scenes.carried("5 20"), "count 11", 20);
        String one = Q + Scenes.carried("5 20") + Scenes.carried("5 1");
        Scenes.due(one, "speak 0", 1);
        Scenes.due(one + "speak 0;", "speak 0", Scenes.STATE);
    }

    /** "debate is closed when none is left", and a new limit is but set then (issue 5). */
    private static void closedWhenNoneIsLeft() {
        String used = Q + Scenes.carried("5 1") + "speak 0;";
        Scenes.due(used, "count 12", 1);
        Scenes.due(used, "count 11", 0);
        String again = Q + Scenes.carried("5 1") + Scenes.made("5 3") + "speak 0;" + Scenes.YES;
        Scenes.due(again, "count 11", 3);
        Scenes.due(again, "count 12", 1);
        Scenes.due(again, "speak 0", Scenes.STATE);
        Scenes.due(Q + Scenes.carried("5 2") + "speak 0;", "count 12", 0);
        Scenes.due(Q + Scenes.times(30, "speak 0;"), "count 12", 0);
    }

    private static void aRejectedLimitIsNone() {
        Scenes.due(Q + Scenes.lost("5 1"), "count 11", Scenes.NOTHING);
        Scenes.due(Q + Scenes.made("5 1"), "count 11", Scenes.NOTHING);
        Scenes.due(Q + Scenes.lost("5 1") + "speak 0;", "speak 0", 2);
        Scenes.due(Q + Scenes.carried("5 4") + Scenes.lost("5 1"), "count 11", 4);
    }

    /** "11 the speeches that are left, also if debate was closed, -5 without a limit". */
    private static void speechesThatAreLeft() {
        Scenes.due(Q, "count 11", Scenes.NOTHING);
        Scenes.due(Q + "speak 0;", "count 11", Scenes.NOTHING);
        Scenes.due(Q + Scenes.carried("5 4") + Scenes.carried("6"), "count 11", 4);
        Scenes.due(CLOSED, "count 11", Scenes.NOTHING);
        Scenes.due(Q + Scenes.carried("5 4") + Scenes.carried("7"), "count 11", Scenes.NOTHING);
        String recess = Q + Scenes.carried("5 4") + Scenes.AGAINST + Scenes.made("8 5");
        Scenes.due(recess, "count 11", Scenes.NOTHING);
        Scenes.due(Q + Scenes.carried("5 4") + Scenes.carried("8 5"), "count 11", 4);
    }

    private static void isAnew(String scene) {
        Scenes.due(scene, "count 11", Scenes.NOTHING);
        Scenes.due(scene, "count 12", 0);
        Scenes.due(scene, "speak 0", 2);
    }

    /** "when a question comes up, also as a next part or by a reconsideration". */
    private static void notClosedWhenAQuestionComesUp() {
        String[] ends = {Scenes.carried("5 1") + "speak 0;",
            "speak 0;" + Scenes.carried("5 4") + Scenes.carried("6")};
        for (String end : ends) {
            isAnew(Q + end + Scenes.YES + Scenes.main(5));
            isAnew(Q + end + Scenes.AGAINST + Scenes.main(5));
            isAnew(Q + end + Scenes.carried("7") + Scenes.main(5));
            isAnew(Q + "divide 1;" + end + Scenes.YES);
            isAnew(Q + "divide 1;" + end + Scenes.AGAINST);
            isAnew(Q + end + Scenes.YES + Scenes.carried("11"));
            isAnew(Q + end + Scenes.AGAINST + Scenes.carried("11"));
        }
        isAnew(Q + "divide 1;" + Scenes.made("1") + "speak 0;" + Scenes.carried("6") + Scenes.YES);
    }

    /** "or is taken up, from a committee, a minute or the table". */
    private static void notClosedWhenAQuestionIsTakenUp() {
        String[] ends = {Scenes.carried("5 1") + "speak 0;",
            "speak 0;" + Scenes.carried("5 4") + Scenes.carried("6")};
        for (String end : ends) {
            isAnew(Q + Scenes.made("3 2") + end + Scenes.YES + "report 2;");
            isAnew(Q + Scenes.made("4 5") + end + Scenes.YES + "pass 5; next;");
            isAnew(Q + end + Scenes.carried("9") + "open; next;");
            isAnew(Q + end + Scenes.carried("7") + Scenes.carried("10"));
            String other = Scenes.main(7) + end + Scenes.AGAINST;
            isAnew(Q + Scenes.carried("3 2") + other + "report 2;");
            isAnew(Q + Scenes.carried("4 5") + other + "pass 5; next;");
            isAnew(Q + Scenes.carried("7") + other + Scenes.carried("10"));
        }
    }

    /** Nothing else opens debate or ends a limit. */
    private static void whatDoesNotOpenDebate() {
        String limited = Q + Scenes.carried("5 4") + Scenes.carried("6");
        String[] others = {Scenes.carried("8 5"), Scenes.lost("8 5"), "divide 1;", Scenes.lost("7"),
            Scenes.lost("9"), "presence 0 0; presence 0 1;", "pass 5;", "image; undo;"};
        for (String other : others) {
            Scenes.due(limited + other, "count 12", 1);
            Scenes.due(limited + other, "count 11", 4);
            Scenes.due(limited + other, "speak 0", Scenes.STATE);
        }
        String amended = Q + Scenes.made("2 0 0 50") + Scenes.carried("6") + Scenes.YES;
        Scenes.due(amended, "count 12", 1);
    }
}
