/** The snapshot, promises 28 and 29: a test for each sentence that names an edge. */
public final class SnapshotEdgeTest {
    private static final String Q = Scenes.ONE + Scenes.main(10, 20, 30);

    private SnapshotEdgeTest() { }

    public static void main(String[] args) {
        noSnapshotAtFirst();
        anEmptyMeeting();
        theNumberOfQuestions();
        inPlaceOfAnEarlierOne();
        restoresTheSnapshotWhichStays();
        delegatesAndQuorum();
        meetingTimeAndBuffer();
        questionsAndMotions();
        debateAndRejections();
        whatWasPutAside();
        minutesAndDecisions();
        whatOthersTookThePlaceOf();
        notTheRows();
        aFullMeeting();
        Checks.finish();
    }

    /** Promise 29: "STATE if there is no snapshot". */
    private static void noSnapshotAtFirst() {
        Scenes.due("", "undo", Scenes.STATE);
        Scenes.due(Q, "undo", Scenes.STATE);
        Scenes.due(Q + Scenes.YES + "store 0 0 1;", "undo", Scenes.STATE);
    }

    private static void anEmptyMeeting() {
        Scenes.due("", "image", 0);
        Scenes.due("image;" + Q, "undo", 0);
        Scenes.due("image;" + Q + "undo;", "count 2", 0);
        Scenes.due("image;" + Q + "undo;", "delegate 5", 0);
        Scenes.due("image;" + Q + "undo; delegate 5;", "count 4", 5);
        Scenes.due("image;" + Q + "undo;", "pending -1 0", 0);
    }

    /** "Returns the number of questions.", 0 to 20, parts among them. */
    private static void theNumberOfQuestions() {
        String one = Scenes.main(10) + Scenes.AGAINST;
        Scenes.due(Scenes.ONE, "image", 0);
        Scenes.due(Q, "image", 1);
        Scenes.due(Q + "divide 1;", "image", 2);
        Scenes.due(Scenes.ONE + Scenes.times(20, one), "image", 20);
        Scenes.due(Scenes.ONE + Scenes.times(20, one) + "image;", "undo", 20);
        Scenes.due(Scenes.ONE + Scenes.times(3, one) + "image;" + Scenes.times(17, one), "undo", 3);
        Scenes.due(Q + "image; divide 1;", "undo", 1);
    }

    /** Promise 28: "Takes a snapshot, in place of an earlier one." */
    private static void inPlaceOfAnEarlierOne() {
        String two = Q + "image;" + Scenes.carried("2 1 0") + "image;" + Scenes.carried("2 1 0");
        Scenes.textDue(two + "undo;", 0, 20, 30);
        Scenes.textDue(two + "undo; undo;", 0, 20, 30);
        Scenes.textDue(two + "undo; image;" + Scenes.carried("2 1 0") + "undo;", 0, 20, 30);
    }

    /** Promise 29: "Restores the snapshot, which stays." */
    private static void restoresTheSnapshotWhichStays() {
        String changed = Q + "image;" + Scenes.carried("2 1 0");
        Scenes.textDue(changed, 0, 20, 30);
        Scenes.textDue(changed + "undo;", 0, 10, 20, 30);
        Scenes.textDue(changed + "undo;" + Scenes.carried("2 1 2") + "undo;", 0, 10, 20, 30);
        Scenes.due(changed + "undo; undo;", "undo", 1);
        Scenes.due(changed + "undo; delegate 5; undo;", "count 2", 1);
    }

    /** "The snapshot contains everything but itself and the rows." */
    private static void delegatesAndQuorum() {
        String before = "delegate 3; delegate 4; presence 1 0; quorum 30; image;";
        String after = before + "delegate 5; presence 0 0; presence 1 1; quorum 60; undo;";
        Scenes.due(after, "count 2", 2);
        Scenes.due(after, "count 3", 3);
        Scenes.due(after, "count 4", 7);
        Scenes.due(after, "presence 0 1", 1);
        Scenes.due(after, "presence 1 1", 0);
        Scenes.due(after, "presence 2 1", Scenes.NONE);
        Scenes.due(after, "quorum 50", 30);
        Scenes.due(after + "delegate 6;", "count 4", 13);
        Scenes.due(after, "decide 4 0", Scenes.BAD);
    }

    private static void meetingTimeAndBuffer() {
        String before = Scenes.ONE + "pass 9; clause 1; clause 2; image;";
        String after = before + "pass 500; clause 3;" + Scenes.made("0") + Scenes.carried("9") + "undo;";
        Scenes.due(after, "count 0", 9);
        Scenes.due(after, "count 1", 1);
        Scenes.due(after, "clause 3", 3);
        Scenes.textDue(after + Scenes.made("0"), 0, 1, 2);
        String closed = Scenes.ONE + Scenes.carried("9") + "image; open; undo;";
        Scenes.due(closed, "count 1", 0);
        Scenes.due(closed, "open", 0);
    }

    private static void questionsAndMotions() {
        String before = Q + Scenes.carried("2 0 0 5") + "divide 2;" + Scenes.made("2 2 0 6")
            + Scenes.made("2 2 0 7") + "image;";
        String after = before + Scenes.YES + Scenes.YES + Scenes.YES + "divide 1;" + Scenes.YES
            + Scenes.carried("1") + Scenes.main(80) + "undo;";
        Scenes.pendingDue(after, 0, 2, 2);
        Scenes.dueOf(after, "pending 1 #", 2, 0, 2, 0, 6, 1);
        Scenes.dueOf(after, "pending 2 #", 2, 0, 2, 0, 7, 2);
        Scenes.textDue(after, 0, 5, 10);
        Scenes.textDue(after, 1, 20, 30);
        Scenes.dueOf(after, "question 0 #", 0, -5, 0, 1, 1);
        Scenes.dueOf(after, "question 1 #", 7, -5, 0, -5, 0);
        Scenes.due(after, "question 2 0", Scenes.NONE);
        Scenes.due(after, "count 7", 0);
        Scenes.due(after, "count 17", 0);
        Scenes.due(after, "count 18", 0);
        Scenes.due(after, "draft 0", 7);
        Scenes.textDue(after + Scenes.YES + Scenes.YES, 0, 7, 10);
    }

    private static void debateAndRejections() {
        String before = Q + Scenes.carried("5 3") + "speak 0;" + Scenes.lost("7") + "image;";
        String after = before + "speak 0;" + Scenes.carried("6") + Scenes.carried("8 5") + "undo;";
        Scenes.due(after, "count 11", 2);
        Scenes.due(after, "count 12", 0);
        Scenes.refusedKind(after, "7", 9);
        Scenes.due(after, "speak 0", 2);
        String closed = Q + Scenes.carried("6") + "image;" + Scenes.YES + Scenes.main(5) + "undo;";
        Scenes.due(closed, "count 12", 1);
        Scenes.due(Q + "image;" + Scenes.lost("7") + Scenes.carried("6") + "undo;", "count 12", 0);
        Scenes.allowedKind(Q + "image;" + Scenes.lost("7") + "undo;", "7", 2);
    }

    private static void whatWasPutAside() {
        String before = Scenes.ONE + Scenes.main(1) + Scenes.carried("3 2") + Scenes.main(2)
            + Scenes.carried("4 9") + Scenes.main(3) + Scenes.carried("7") + "pass 9; image;";
        String after = before + "report 2;" + Scenes.YES + "next;" + Scenes.YES
            + Scenes.carried("10") + Scenes.YES + "undo;";
        Scenes.due(after, "count 8", 1);
        Scenes.due(after, "count 9", 1);
        Scenes.due(after, "count 10", 1);
        Scenes.due(after, "count 16", 3);
        Scenes.due(after, "report 2", 0);
        Scenes.due(after, "next", 1);
        Scenes.due(after + Scenes.carried("10"), "question 2 0", 0);
        Scenes.dueOf(after, "question # 0", 1, 2, 3, -1);
        String later = Q + "image;" + Scenes.carried("3") + "undo;" + Scenes.AGAINST;
        Scenes.due(later, "report 0", Scenes.STATE);
        Scenes.due(later, "count 16", 0);
    }

    private static void minutesAndDecisions() {
        String before = "delegate 3; delegate 2;" + Scenes.main(10) + Scenes.made("7")
            + "decide 0 2; decide 1 2; image;";
        String after = before + Scenes.lost("11") + Scenes.main(5) + "speak 1;" + Scenes.YES + "undo;";
        Scenes.dueOf(after, "vote #", 3, 2, 0, 1, 0, Float.floatToIntBits(3f / 5f));
        Scenes.due(after, "entry -1 0", 4);
        Scenes.due(after, "entry 4 0", Scenes.NONE);
        Scenes.due(after, "count 13", 2);
        Scenes.due(after, "count 14", 1);
        Scenes.due(after, "count 15", 1);
        Scenes.due(after, "store 0 0 1", 2);
        Scenes.allowed(after, "0 11 0 0 0", 1);
        Scenes.refused(after, "1 11 0 0 0", 10);
        Scenes.due(after, "replayed 0", 1);
        Scenes.due(after + Scenes.main(7) + "speak 1;", "entry 5 3", 1);
    }

    /** Numbers that others have taken since: a place, a resolution, those that won. */
    private static void whatOthersTookThePlaceOf() {
        String referred = Q + Scenes.carried("3 3") + "image; report 3;";
        Scenes.due(referred + Scenes.carried("3 1") + "undo;", "question 0 1", 3);
        Scenes.due(referred + Scenes.carried("4 77") + "undo;", "question 0 1", 3);
        Scenes.due(referred + Scenes.carried("3 1") + "undo;", "report 1", Scenes.STATE);
        Scenes.due(referred + Scenes.carried("3 1") + "undo;", "report 3", 0);
        String postponed = Q + Scenes.carried("4 5") + "pass 5; image; next;" + Scenes.carried("4 9");
        Scenes.due(postponed + "undo;", "question 0 1", 5);
        Scenes.due(postponed + "undo;", "next", 0);
        String resolved = Q + Scenes.YES + "image;" + Scenes.carried("11") + Scenes.carried("7")
            + Scenes.main(80) + Scenes.YES;
        Scenes.due(resolved, "resolution 0 -2", 1);
        Scenes.due(resolved + "undo;", "resolution 0 -2", 0);
        Scenes.due(resolved + "undo;", "resolution 0 0", 10);
        Scenes.due(resolved + "undo;", "question 0 1", 0);
        Scenes.due(resolved + "undo;", "replayed 0", 1);
        String won = "delegate 1; delegate 1; delegate 1;" + Scenes.main(10) + "decide 3 4; image;"
            + Scenes.main(20) + "decide 1 6; undo;";
        Scenes.allowed(won, "0 11 0 0 0", 1);
        Scenes.allowed(won, "1 11 0 0 0", 1);
        Scenes.refused(won, "2 11 0 0 0", 10);
        Scenes.due(won + "move 1 11 0 0 0; decide 3 0;", "question 0 0", 0);
    }

    /** "everything but itself and the rows". */
    private static void notTheRows() {
        String row = Scenes.ONE + Scenes.carried("8 1") + "store 0 0 1; image;"
            + Scenes.lost("8 1") + "store 0 1 0; store 1 1 1; undo;";
        Scenes.due(row, "element 0 1", 0x3f800000L);
        Scenes.due(row, "element 1 0", 0);
        Scenes.due(row, "element 1 1", 1);
        Scenes.due(row, "copy 0 1 1", Scenes.FULL);
        Scenes.due(row, "element 2 0", Scenes.NO);
        Scenes.due(row, "store 0 0 1", 1);
    }

    /** All that has a limit full at once: what a snapshot holds most, in less than 512 calls. */
    private static void aFullMeeting() {
        String full = Scenes.times(12, "delegate 9;") + "quorum 0;"
            + Scenes.times(3, Scenes.main(1) + Scenes.carried("7"))
            + Scenes.main(2) + Scenes.carried("3 0") + Scenes.main(3) + Scenes.carried("3 1")
            + Scenes.main(4) + Scenes.carried("3 2") + Scenes.main(5) + Scenes.carried("3 3")
            + Scenes.times(12, Scenes.main(6) + Scenes.carried("4 9999"))
            + Scenes.main(1, 2, 3, 4, 5, 6, 7, 8) + Scenes.times(120, "speak 0;")
            + Scenes.times(8, "clause 9;") + "image;";
        String emptied = full + Scenes.YES + Scenes.times(3, Scenes.carried("10") + Scenes.AGAINST)
            + "report 0;" + Scenes.AGAINST + "report 1;" + Scenes.YES + "report 2;" + Scenes.AGAINST
            + "report 3;" + Scenes.AGAINST + Scenes.times(20, "pass 499;") + "pass 19;"
            + Scenes.times(12, "next;" + Scenes.AGAINST);
        int[] counts = {0, 1, 12, 108, 108, 1, 20, 0, 3, 12, 4, -5, 0, 39, 19, 0, 20, 0, 0};
        for (int what = 0; what < counts.length; what++) {
            Scenes.due(full, "count " + what, counts[what]);
            Scenes.due(emptied + "undo;", "count " + what, counts[what]);
        }
        Scenes.due(emptied, "count 16", 0);
        Scenes.due(emptied, "undo", 20);
        Scenes.due(full, "image", 20);
        Scenes.due(emptied + "undo;", "clause 5", Scenes.FULL);
        Scenes.textDue(emptied + "undo;", 19, 1, 2, 3, 4, 5, 6, 7, 8);
    }
}
