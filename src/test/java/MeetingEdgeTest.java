/** The meeting, the time and the buffer, promises 5, 12 and 13: a test for each edge. */
public final class MeetingEdgeTest {
    private static final String CLOSED = Scenes.ONE + Scenes.carried("9");
    /** The minute 9500. */
    private static final String LATE = Scenes.times(19, "pass 500;");
    private static final String EIGHT = "clause 1; clause 2; clause 3; clause 4; clause 5; clause 6;"
        + "clause 7; clause 8;";

    private MeetingEdgeTest() { }

    public static void main(String[] args) {
        atFirstOpenAtTheMinuteNought();
        opensOnceAfterItWasClosed();
        passesFromOneToFiveHundred();
        passesUpToTheLastMinute();
        aBadPassIsAheadOfFull();
        timePassesWhateverIsGoingOn();
        clausesFromNoughtToNinetyNine();
        theBufferHoldsEight();
        aBadClauseIsAheadOfFull();
        theBufferIsEmptyAfterAMainMotion();
        theBufferStaysAfterOthers();
        Checks.finish();
    }

    /** "The meeting is open or closed, at first open. The time is a minute, initially 0." */
    private static void atFirstOpenAtTheMinuteNought() {
        Scenes.due("", "count 1", 1);
        Scenes.due("", "count 0", 0);
        Scenes.due("", "open", Scenes.STATE);
    }

    /** "Returns the present minute; STATE if it is open." */
    private static void opensOnceAfterItWasClosed() {
        Scenes.due(CLOSED, "count 1", 0);
        Scenes.due(CLOSED, "open", 0);
        Scenes.due(CLOSED + "pass 7", "open", 7);
        Scenes.due(CLOSED + "open", "count 1", 1);
        Scenes.due(CLOSED + "open", "open", Scenes.STATE);
        Scenes.due(CLOSED + "open;" + Scenes.carried("9"), "open", 0);
        Scenes.due("delegate 1;" + Scenes.main(10), "open", Scenes.STATE);
        Scenes.due("delegate 1; presence 0 0; ", "open", Scenes.STATE);
        Scenes.due(CLOSED + "presence 0 0", "open", 0);
    }

    /** "n: the number of minutes, 1 to 500"; "BAD if n is out of range". */
    private static void passesFromOneToFiveHundred() {
        Scenes.due("", "pass 1", 1);
        Scenes.due("", "pass 500", 500);
        Scenes.due("pass 7", "pass 500", 507);
        for (String n : new String[] {"0", "501", "-1", "-500", "MIN", "MAX"}) {
            Scenes.due("", "pass " + n, Scenes.BAD);
            Scenes.due("pass 7", "pass " + n, Scenes.BAD);
        }
    }

    /** "FULL if it would be above 9999". */
    private static void passesUpToTheLastMinute() {
        Scenes.due(LATE, "pass 499", 9999);
        Scenes.due(LATE, "pass 500", Scenes.FULL);
        Scenes.due(LATE + "pass 498", "pass 1", 9999);
        Scenes.due(LATE + "pass 498", "pass 2", Scenes.FULL);
        Scenes.due(LATE + "pass 499", "pass 1", Scenes.FULL);
        Scenes.due(LATE + "pass 499", "count 0", 9999);
    }

    /** "BAD if n is out of range; FULL if it would be above 9999", in this order. */
    private static void aBadPassIsAheadOfFull() {
        for (String n : new String[] {"0", "501", "-1", "MAX", "MIN"}) {
            Scenes.due(LATE + "pass 499", "pass " + n, Scenes.BAD);
        }
    }

    /** Time passes while the meeting is closed, without a quorum, and with motions pending. */
    private static void timePassesWhateverIsGoingOn() {
        Scenes.due(CLOSED, "pass 3", 3);
        Scenes.due("", "pass 3", 3);
        Scenes.due(Scenes.ONE + Scenes.main(10), "pass 3", 3);
        Scenes.pendingDue(Scenes.ONE + Scenes.main(10) + "pass 3", 0);
    }

    /** "clause: the clause, 0 to 99"; "BAD if clause is out of range". */
    private static void clausesFromNoughtToNinetyNine() {
        Scenes.due("", "clause 0", 1);
        Scenes.due("", "clause 99", 1);
        for (String clause : new String[] {"-1", "100", "MIN", "MAX", "256"}) {
            Scenes.due("", "clause " + clause, Scenes.BAD);
            Scenes.due("clause 5", "clause " + clause, Scenes.BAD);
        }
        Scenes.textDue(Scenes.ONE + Scenes.main(0, 99), 0, 0, 99);
    }

    /** "the buffer, which holds at most 8"; "Returns the number of clauses in the buffer". */
    private static void theBufferHoldsEight() {
        for (int n = 0; n < 8; n++) {
            Scenes.due(Scenes.times(n, "clause 5;"), "clause 6", n + 1);
        }
        Scenes.due(EIGHT, "clause 9", Scenes.FULL);
        Scenes.due(EIGHT, "clause 8", Scenes.FULL);
        Scenes.textDue(Scenes.ONE + EIGHT + Scenes.made("0"), 0, 1, 2, 3, 4, 5, 6, 7, 8);
    }

    /** "BAD if clause is out of range; FULL if it holds 8", in this order. */
    private static void aBadClauseIsAheadOfFull() {
        Scenes.due(EIGHT, "clause 100", Scenes.BAD);
        Scenes.due(EIGHT, "clause -1", Scenes.BAD);
    }

    /** "If it is a main motion that is not refused, the buffer is empty afterwards." */
    private static void theBufferIsEmptyAfterAMainMotion() {
        Scenes.due(Scenes.ONE + EIGHT + Scenes.made("0"), "clause 5", 1);
        Scenes.due(Scenes.ONE + Scenes.main(10), "clause 5", 1);
        Scenes.due(Scenes.ONE + Scenes.main(10) + Scenes.AGAINST, "rule 0 0 0 0 0", 10);
    }

    /** A main motion that is refused and a motion of another kind leave the buffer as it is. */
    private static void theBufferStaysAfterOthers() {
        String pending = Scenes.ONE + Scenes.main(10) + "clause 1; clause 2;";
        Scenes.due(pending, "move 0 0 0 0 0", -104);
        Scenes.due(pending + Scenes.carried("2 0 0 50") + Scenes.lost("7"), "clause 5", 3);
        Scenes.due(pending + Scenes.YES + Scenes.carried("11"), "clause 5", 3);
        Scenes.due(pending + Scenes.carried("7") + Scenes.carried("10"), "clause 5", 3);
        Scenes.due(pending + Scenes.carried("9") + "open; next", "clause 5", 3);
        Scenes.textDue(pending + Scenes.carried("1") + Scenes.made("0"), 1, 1, 2);
    }
}
