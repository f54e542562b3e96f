/**
 * "A motion is refused by the first of these rules that applies": for each two rules that can
 * apply to one motion at once, that the first is answered.
 */
public final class RulesInOrderTest {
    private static final String Q = Scenes.main(10, 20, 30);
    private static final String TWO = "delegate 1; delegate 1;";
    /** The delegate 1 goes, and the quorum is just reached, or just not. */
    private static final String GONE = "presence 1 0; quorum 50;";
    private static final String NO_QUORUM = "presence 1 0; quorum 51;";
    private static final String SECOND = Scenes.made("2 0 0 50") + Scenes.made("2 2 0 51");
    private static final String[] BAD_NUMBERS = {"2 9", "3 4", "4 0", "5 0"};
    private static final String FULL_TABLE = (Scenes.main(10) + Scenes.carried("7")).repeat(3);
    private static final String TWENTY = (Scenes.main(10) + Scenes.AGAINST).repeat(20);
    /** The committee 0 has a question, and another one is pending. */
    private static final String BUSY = Scenes.main(10, 20) + Scenes.carried("3") + Q;

    private RulesInOrderTest() { }

    public static void main(String[] args) {
        rule1IsFirst();
        rule2IsAheadOfRules3To5();
        rule2IsAheadOfRules6To11();
        rule3IsAheadOfOthers();
        rule4IsAheadOf10And11();
        rule5IsAheadOf8To11();
        rule6IsAheadOf8To11();
        rule7IsAheadOf8And10();
        rule8IsAheadOf9To11();
        rule9IsAheadOf10And11();
        rule10IsAheadOf11ButForReconsidering();
        Checks.finish();
    }

    private static void refused(String scene, String kindAndNumbers, int rule) {
        Scenes.refused(scene, Scenes.motion(kindAndNumbers), rule);
    }

    private static void refusedOne(String scene, String kindAndNumbers, int rule) {
        Scenes.refused(scene, "1" + Scenes.motion(kindAndNumbers).substring(1), rule);
    }

    private static void rule1IsFirst() {
        String closed = TWO + Scenes.carried("9");
        for (int kind = 0; kind <= 11; kind++) {
            refused(closed, Scenes.possible(kind), 1);
            refused(closed + NO_QUORUM, Scenes.possible(kind), 1);
            refusedOne(closed + GONE, Scenes.possible(kind), 1);
            refusedOne(closed + NO_QUORUM, Scenes.possible(kind), 1);
        }
        for (String numbers : new String[] {"2 9", "3 4", "4 0", "5 21", "8 0", "8 501"}) {
            refused(closed, numbers, 1);
        }
        refused(TWO + TWENTY + "clause 5;" + Scenes.carried("9"), "0", 1);
    }

    private static void rule2IsAheadOfRules3To5() {
        for (int kind = 0; kind <= 11; kind++) {
            refusedOne(TWO + NO_QUORUM, Scenes.possible(kind), 2);
            refusedOne(TWO + GONE, Scenes.possible(kind), 2);
            refusedOne(TWO + Q + NO_QUORUM, Scenes.possible(kind), 2);
            refusedOne(TWO + Q + GONE, Scenes.possible(kind), 2);
        }
    }

    private static void rule2IsAheadOfRules6To11() {
        for (int kind = 1; kind <= 9; kind++) {
            refusedOne(TWO + Q + Scenes.made("9") + GONE, Scenes.possible(kind), 2);
        }
        refusedOne(TWO + Q + SECOND + GONE, "2 2 0 52", 2);
        for (int kind = 1; kind <= 6; kind++) {
            refusedOne(TWO + Q + Scenes.carried("6") + GONE, Scenes.possible(kind), 2);
        }
        for (int kind : new int[] {1, 3, 5, 6, 7}) {
            refusedOne(TWO + Q + Scenes.lost(Scenes.possible(kind)) + GONE, Scenes.possible(kind), 2);
        }
        for (String numbers : BAD_NUMBERS) {
            refusedOne(TWO + Q + GONE, numbers, 2);
        }
        refusedOne(TWO + GONE, "8 0", 2);
        refusedOne(TWO + BUSY + GONE, "3", 2);
        refusedOne(TWO + FULL_TABLE + Q + GONE, "7", 2);
    }

    private static void rule3IsAheadOfOthers() {
        for (int kind : new int[] {0, 10, 11}) {
            refused(TWO + NO_QUORUM, Integer.toString(kind), 3);
            refused(TWO + Q + NO_QUORUM, Integer.toString(kind), 3);
        }
        for (int kind = 1; kind <= 7; kind++) {
            refused(TWO + NO_QUORUM, Scenes.possible(kind), 3);
            refused(TWO + Q + Scenes.made("7") + NO_QUORUM, Scenes.possible(kind), 3);
        }
        refused(TWO + Q + SECOND + NO_QUORUM, "2 2 0 52", 3);
        for (int kind = 1; kind <= 6; kind++) {
            refused(TWO + Q + Scenes.carried("6") + NO_QUORUM, Scenes.possible(kind), 3);
        }
        for (int kind : new int[] {1, 3, 5, 6, 7}) {
            refused(TWO + Q + Scenes.lost(Scenes.possible(kind)) + NO_QUORUM, Scenes.possible(kind), 3);
        }
        for (String numbers : BAD_NUMBERS) {
            refused(TWO + Q + NO_QUORUM, numbers, 3);
        }
        refused(TWO + BUSY + NO_QUORUM, "3", 3);
        refused(TWO + FULL_TABLE + Q + NO_QUORUM, "7", 3);
        refused(TWO + TWENTY + "clause 5;" + NO_QUORUM, "0", 3);
    }

    private static void rule4IsAheadOf10And11() {
        refused(TWO + Q, "0", 4);
        refused(TWO + Q, "10", 4);
        refused(TWO + Q, "11", 4);
        refused(TWO + TWENTY + "clause 5;" + Scenes.made("8 5"), "0", 4);
        refusedOne(TWO + Q + Scenes.YES + Scenes.made("8 5"), "11", 4);
        refused(TWO + Q + Scenes.YES + Scenes.lost("11") + Scenes.made("8 5"), "11", 4);
    }

    /** Debate was closed, and motions rejected, on a question that is pending no more. */
    private static void rule5IsAheadOf8To11() {
        String closed = TWO + Q + Scenes.carried("6") + Scenes.YES;
        for (int kind = 1; kind <= 7; kind++) {
            refused(closed, Scenes.possible(kind), 5);
            String lost = TWO + Q + Scenes.lost(Scenes.possible(kind)) + Scenes.AGAINST;
            refused(lost, Scenes.possible(kind), 5);
        }
        for (String numbers : BAD_NUMBERS) {
            refused(TWO, numbers, 5);
            refused(TWO + Scenes.made("8 5"), numbers, 5);
        }
        refused(TWO + Scenes.main(10) + Scenes.carried("3"), "3", 5);
        refused(TWO + FULL_TABLE, "7", 5);
        refused(TWO + FULL_TABLE + Scenes.made("8 5"), "7", 5);
    }

    private static void rule6IsAheadOf8To11() {
        String spoken = TWO + Q + Scenes.carried("5 1") + Scenes.made("7") + "speak 0;";
        for (int kind = 1; kind <= 6; kind++) {
            refused(spoken, Scenes.possible(kind), 6);
        }
        for (int kind : new int[] {1, 3, 5, 6, 7}) {
            String lost = Scenes.lost(Scenes.possible(kind));
            refused(TWO + Q + lost + Scenes.made("8 5"), Scenes.possible(kind), 6);
        }
        for (String numbers : BAD_NUMBERS) {
            refused(TWO + Q + Scenes.made("7"), numbers, 6);
        }
        refused(TWO + Scenes.made("9"), "8 0", 6);
        refused(TWO + BUSY + Scenes.made("7"), "3", 6);
        refused(TWO + FULL_TABLE + Q + Scenes.made("8 5"), "7", 6);
    }

    private static void rule7IsAheadOf8And10() {
        String spoken = TWO + Q + Scenes.carried("5 1") + SECOND + "speak 0;";
        refused(spoken, "2 2 0 52", 7);
        refused(TWO + Q + SECOND, "2 9 9 9", 7);
        refused(TWO + Q + SECOND, "2 2 0 51", 7);
    }

    private static void rule8IsAheadOf9To11() {
        String limit = TWO + Q + Scenes.carried("5 1");
        for (int kind : new int[] {1, 3, 5, 6}) {
            refused(limit + Scenes.lost(Scenes.possible(kind)) + "speak 0;", Scenes.possible(kind), 8);
        }
        refused(limit + Scenes.lost("7") + "speak 0;", "7", 9);
        for (String numbers : BAD_NUMBERS) {
            refused(limit + "speak 0;", numbers, 8);
            refused(TWO + Q + Scenes.carried("6"), numbers, 8);
        }
        refused(TWO + Q + Scenes.made("2 0 0 50") + Scenes.carried("6"), "2 9", 8);
        refused(TWO + BUSY + Scenes.carried("6"), "3", 8);
    }

    private static void rule9IsAheadOf10And11() {
        refused(TWO + Q + Scenes.lost("3"), "3 4", 9);
        refused(TWO + Q + Scenes.lost("3"), "3 -1", 9);
        refused(TWO + Q + Scenes.lost("5 2"), "5 0", 9);
        refused(TWO + Q + Scenes.lost("5 2"), "5 21", 9);
        refused(TWO + BUSY + Scenes.lost("3 1"), "3 0", 9);
        // The table is full only after the motion to lay on it was made, and waited.
        String waits = TWO + Q + Scenes.made("7") + Scenes.carried("9") + "open;";
        refused(waits + FULL_TABLE + "next;" + Scenes.AGAINST, "7", 9);
    }

    private static void rule10IsAheadOf11ButForReconsidering() {
        refused(TWO + TWENTY, "0", 10);
        refused(TWO + TWENTY + "clause 5;", "0", 11);
        refused(TWO + BUSY, "3 4", 10);
        refused(TWO + BUSY, "3 0", 11);
        refused(TWO, "11", 11);
        refusedOne(TWO + Q + Scenes.YES, "11", 10);
        refused(TWO + Q + Scenes.YES + Scenes.lost("11"), "11", 10);
    }
}
