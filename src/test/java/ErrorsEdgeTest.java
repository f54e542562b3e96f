/**
 * The errors and the order in which they are looked at, and the 512 calls of an object. The tests
 * of each section look at the errors of its calls; here are those that several sections share.
 */
public final class ErrorsEdgeTest {
    private static final String Q = Scenes.ONE + Scenes.main(10, 20, 30);
    private static final String[] NUMBERS = {"MIN", "-101", "-3", "-2", "-1", "0", "1", "2", "3", "4",
        "5", "6", "8", "12", "19", "20", "21", "40", "99", "100", "120", "MAX"};
    /** Something of everything: parts, amendments, debate, places, rows, a snapshot, minutes. */
    private static final String RICH = "delegate 3; delegate 2; delegate 1;" + Scenes.main(1, 2, 3)
        + "divide 2;" + Scenes.YES + Scenes.carried("3 2") + Scenes.main(4) + Scenes.carried("4 5")
        + Scenes.main(5) + Scenes.made("1") + Scenes.carried("7") + "image;" + Scenes.main(6, 7)
        + Scenes.lost("7") + Scenes.carried("5 9") + Scenes.lost("3 1") + "speak 1; store 0 0 1;"
        + "store 1 1 0; clause 8; clause 9; presence 2 0; quorum 40;" + Scenes.made("2 0 0 50")
        + Scenes.made("2 2 0 51");

    private ErrorsEdgeTest() { }

    public static void main(String[] args) {
        questionsDoNotChangeTheState();
        errorsOfARichMeeting();
        errorsOfAClosedMeeting();
        minusFiveOnlyIfNoErrorApplies();
        aFailedMoveKeepsTheBuffer();
        aFailedUndoAndOpen();
        fiveHundredAndTwelveCalls();
        Checks.finish();
    }

    /** "Questions do not change the state", whatever their numbers. */
    private static void questionsDoNotChangeTheState() {
        String[] withTwo = {"pending", "text", "question", "resolution", "entry", "element"};
        String[] withOne = {"draft", "replayed", "vote", "count"};
        AssemblyChair asked = Scenes.play(RICH);
        for (String first : NUMBERS) {
            for (String call : withOne) {
                Scenes.answer(asked, call + " " + first);
            }
            for (String second : NUMBERS) {
                for (String call : withTwo) {
                    Scenes.answer(asked, call + " " + first + " " + second);
                }
                for (String third : NUMBERS) {
                    Scenes.answer(asked, "rule 0 " + first + " " + second + " " + third + " 0");
                    Scenes.answer(asked, "rule 1 2 " + first + " " + second + " " + third);
                }
            }
        }
        Scenes.sameDue("after all questions", asked, RICH);
    }

    /** "A call that returns an error code leaves the state unchanged." */
    private static void errorsOfARichMeeting() {
        errors(RICH, Scenes.NONE, "presence 3 0", "presence -1 1", "move 3 0 0 0 0", "move 0 12 0 0 0",
            "speak 3", "report 4", "report -1", "store 4 0 0", "store 0 2 0", "copy 0 4 0",
            "again 0 4", "again 4 0");
        errors(RICH, Scenes.BAD, "delegate 0", "delegate 10", "presence 0 2", "quorum 101", "quorum -1",
            "clause 100", "clause -1", "move 0 7 1 0 0", "move 0 3 1 1 0", "decide 8 0", "decide 1 1",
            "pass 0", "pass 501", "store 0 0 2", "copy 0 1 -1", "copy 0 1 40");
        errors(RICH, Scenes.STATE, "speak 2", "divide 1", "report 2", "report 0", "next", "open",
            "copy 0 2 0", "again 3 0");
        errors(RICH, Scenes.FULL, "copy 0 1 1");
        errors(RICH, -102, "move 2 7 0 0 0");
        errors(RICH, -106, "move 0 1 0 0 0");
        errors(RICH, -107, "move 0 2 2 0 52");
        errors(RICH, -104, "move 0 0 0 0 0");
        errors(RICH + Scenes.times(2, "decide 0 1;"), -109, "move 0 3 1 0 0");
        errors(RICH + Scenes.times(2, "decide 0 1;"), -110, "move 0 2 9 9 9", "move 0 5 21 0 0");
        errors(RICH + Scenes.times(2, "decide 0 1;"), -110, "move 0 4 0 0 0");
    }

    private static void errors(String scene, int due, String... calls) {
        for (String call : calls) {
            Scenes.due(scene, call, due);
        }
    }

    private static void errorsOfAClosedMeeting() {
        String closed = RICH + Scenes.carried("9");
        errors(closed, Scenes.STATE, "speak 0", "divide 1", "report 2", "next", "decide 1 0");
        errors(closed, -101, "move 0 0 0 0 0", "move 0 9 0 0 0", "move 2 8 5 0 0", "move 0 10 0 0 0");
        errors(closed, Scenes.NONE, "speak 3", "report 4", "move 3 0 0 0 0");
        errors(closed, Scenes.BAD, "decide 8 0", "move 0 0 1 0 0");
        Scenes.due(closed, "open", 0);
        Scenes.due(closed, "presence 2 1", 0);
        Scenes.due(closed, "quorum 50", 40);
        Scenes.due(closed, "delegate 1", 3);
        Scenes.due(closed, "clause 1", 3);
        Scenes.due(closed, "image", 5);
        Scenes.due(closed, "undo", 4);
        Scenes.due(closed, "store 3 0 1", 8);
    }

    /** "The result -5 is returned only if no error applies." */
    private static void minusFiveOnlyIfNoErrorApplies() {
        Scenes.due(Scenes.ONE, "next", Scenes.NOTHING);
        Scenes.due(Scenes.ONE + Scenes.made("8 5"), "next", Scenes.STATE);
        Scenes.due(Scenes.ONE + Scenes.carried("9"), "next", Scenes.STATE);
        Scenes.due(Q, "question 0 1", Scenes.NOTHING);
        Scenes.due(Q, "question 1 1", Scenes.NONE);
        Scenes.due(Q, "question 0 3", Scenes.NOTHING);
        Scenes.due(Q, "question 1 3", Scenes.NONE);
        Scenes.due("", "count 11", Scenes.NOTHING);
        Scenes.due("", "count 19", Scenes.NONE);
    }

    private static void aFailedMoveKeepsTheBuffer() {
        String two = "delegate 1; delegate 1; clause 1; clause 2;";
        Scenes.due(two, "move 2 0 0 0 0", Scenes.NONE);
        Scenes.due(two, "move 0 0 1 0 0", Scenes.BAD);
        Scenes.due(two + Scenes.made("9") + "decide 3 0;", "move 0 0 0 0 0", -101);
        Scenes.due(two + "presence 0 0;", "move 0 0 0 0 0", -102);
        Scenes.due(two + "presence 1 0; quorum 51;", "move 0 0 0 0 0", -103);
        Scenes.due(two + Scenes.made("8 5"), "move 0 0 0 0 0", -104);
        String twenty = Scenes.ONE + Scenes.times(20, Scenes.main(10) + Scenes.AGAINST);
        Scenes.due(twenty + "clause 1;", "move 0 0 0 0 0", -111);
        Scenes.due(twenty, "move 0 0 0 0 0", -110);
    }

    private static void aFailedUndoAndOpen() {
        Scenes.due(Q, "undo", Scenes.STATE);
        Scenes.due(Q, "open", Scenes.STATE);
        Scenes.due(Q + Scenes.made("8 5"), "open", Scenes.STATE);
    }

    /** "An object is used for at most 512 calls": the last ones are answered as the first. */
    private static void fiveHundredAndTwelveCalls() {
        AssemblyChair waiting = new AssemblyChair();
        Scenes.goOn(waiting, Scenes.ONE + (Scenes.made("8 5") + Scenes.carried("9") + "open;").repeat(127));
        Checks.due("call 510: all wait", waiting.count(9), 127);
        Checks.due("call 511: the first of them", waiting.next(), 99);
        Checks.due("call 512: the others", waiting.count(16), 127);
        AssemblyChair spoken = new AssemblyChair();
        Scenes.goOn(spoken, Q + "speak 0;".repeat(505));
        Checks.due("call 511", spoken.speak(0), 506);
        Checks.due("call 512", spoken.entry(-1, 0), 507);
    }
}
