/**
 * The rules 1 to 9, promises 6 and 14: a test for each edge. Each refusal is looked at as an
 * answer of rule and of move, and that it changes nothing. RulesInOrderTest has their order.
 */
public final class RulesEdgeTest {
    private static final String Q = Scenes.ONE + Scenes.main(10, 20, 30);
    private static final String CLOSED = Scenes.ONE + Scenes.carried("9");
    private static final int[] ON_A_QUESTION = {1, 2, 3, 4, 5, 6, 7};
    private static final int[] ALONE = {0, 10, 11};
    private static final int[] ONCE = {1, 3, 5, 6, 7};

    private RulesEdgeTest() { }

    public static void main(String[] args) {
        errorsAreAheadOfRules();
        kindsFromNoughtToEleven();
        numbersThatAKindDoesNotNeed();
        rule1();
        rule2();
        rule3();
        rule3LeavesOutRecessAndAdjourning();
        rule4();
        rule5();
        rule6();
        rule6OnWhatIsMadeAlone();
        rule7AheadOfRule6();
        rule8();
        rule8EndsWhenDebateOpens();
        rule9();
        rule9EndsWithAnyAdoption();
        rule9EndsWhenAQuestionComesUp();
        rule9EndsWhenAQuestionIsTakenUp();
        rule9StaysOtherwise();
        Checks.finish();
    }

    private static void error(String scene, String motion, int due) {
        Scenes.due(scene, "rule " + motion, due);
        Scenes.due(scene, "move " + motion, due);
    }

    /** "NONE .. no such delegate or kind; BAD ..; -100 minus the rule", in this order. */
    private static void errorsAreAheadOfRules() {
        error(CLOSED, "1 0 0 0 0", Scenes.NONE);
        error(CLOSED, "0 12 0 0 0", Scenes.NONE);
        error(CLOSED, "0 0 1 0 0", Scenes.BAD);
        error(CLOSED, "0 11 0 0 1", Scenes.BAD);
        error(CLOSED, "1 0 1 0 0", Scenes.NONE);
        error(CLOSED, "0 12 1 0 0", Scenes.NONE);
        error(CLOSED, "0 -1 0 1 0", Scenes.NONE);
        error(Q, "1 12 1 1 1", Scenes.NONE);
        error(Q + "presence 0 0", "0 7 1 0 0", Scenes.BAD);
        Scenes.refused(CLOSED, "0 0 0 0 0", 1);
    }

    /** "kind: the kind, 0 to 11". */
    private static void kindsFromNoughtToEleven() {
        for (String kind : new String[] {"-1", "12", "MIN", "MAX", "-12", "32", "256"}) {
            error(Scenes.ONE, "0 " + kind + " 0 0 0", Scenes.NONE);
            error(Q, "0 " + kind + " 0 0 0", Scenes.NONE);
        }
        Scenes.allowedKind(Scenes.ONE + "clause 5;", "0", 1);
        Scenes.refusedKind(Scenes.ONE, "11", 11);
    }

    /** "BAD if a, b or c is not 0, though the kind does not need it". */
    private static void numbersThatAKindDoesNotNeed() {
        for (int kind = 0; kind <= 11; kind++) {
            boolean needsA = kind == 3 || kind == 4 || kind == 5 || kind == 8;
            for (String n : new String[] {"1", "-1", "MIN", "MAX"}) {
                if (kind != 2 && !needsA) {
                    error(Q, "0 " + kind + " " + n + " 0 0", Scenes.BAD);
                }
                if (kind != 2) {
                    error(Q, "0 " + kind + " 1 " + n + " 0", Scenes.BAD);
                    error(Q, "0 " + kind + " 1 0 " + n, Scenes.BAD);
                    error(Q, "0 " + kind + " 0 0 " + n, Scenes.BAD);
                }
            }
        }
        theKindTwoNeedsAll();
    }

    /** "the kind 2 needs a, b and c, whatever the form": never BAD. */
    private static void theKindTwoNeedsAll() {
        Scenes.refused(Q, "0 2 1 0 1", 10);
        Scenes.refused(Q, "0 2 3 1 1", 10);
        Scenes.refused(Q, "0 2 -1 -1 -1", 10);
        Scenes.refused(Scenes.ONE, "0 2 5 5 5", 5);
        String secondary = Q + Scenes.made("2 0 0 50");
        Scenes.refused(secondary, "0 2 0 1 1", 10);
        Scenes.refused(secondary, "0 2 2 1 51", 10);
    }

    /** "1 the meeting is closed". */
    private static void rule1() {
        for (int kind = 0; kind <= 11; kind++) {
            Scenes.refusedKind(CLOSED + "clause 5;", Scenes.possible(kind), 1);
            String pending = Q + Scenes.carried("9");
            Scenes.refusedKind(pending, Scenes.possible(kind), 1);
        }
        Scenes.allowedKind(CLOSED + "open; clause 5;", "0", 1);
    }

    /** "2 the mover is absent". */
    private static void rule2() {
        String two = "delegate 1; delegate 1;" + Scenes.main(10, 20, 30);
        for (int kind : new int[] {1, 2, 3, 4, 5, 6, 7, 8, 9}) {
            String motion = Scenes.motion(Scenes.possible(kind)).substring(1);
            Scenes.refused(two + "presence 1 0;", "1" + motion, 2);
            Scenes.allowed(two + "presence 1 0;", "0" + motion, 2);
            Scenes.allowed(two + "presence 0 0;", "1" + motion, 2);
            Scenes.allowed(two + "presence 1 0; presence 1 1;", "1" + motion, 2);
        }
        String free = "delegate 1; delegate 1; clause 5; presence 1 0;";
        for (int kind : new int[] {0, 8, 9, 10, 11}) {
            Scenes.refused(free, "1" + Scenes.motion(Scenes.possible(kind)).substring(1), 2);
        }
        Scenes.allowed(free, "0 0 0 0 0", 1);
    }

    /** "3 there is no quorum, and the kind is neither 8 nor 9": just below and just at it. */
    private static void rule3() {
        String half = "delegate 1; delegate 1;" + Scenes.main(10, 20, 30) + "presence 1 0;";
        for (int kind : ON_A_QUESTION) {
            Scenes.refusedKind(half + "quorum 51;", Scenes.possible(kind), 3);
            Scenes.allowedKind(half + "quorum 50;", Scenes.possible(kind), 2);
        }
        String free = "delegate 1; delegate 1; clause 5; presence 1 0;";
        for (int kind : ALONE) {
            Scenes.refusedKind(free + "quorum 51;", Integer.toString(kind), 3);
        }
        Scenes.allowedKind(free + "quorum 50;", "0", 1);
    }

    /** "and the kind is neither 8 nor 9". */
    private static void rule3LeavesOutRecessAndAdjourning() {
        String none = "delegate 1; delegate 9; presence 1 0; quorum 100;";
        Scenes.allowedKind(none, "8 5", 1);
        Scenes.allowedKind(none, "9", 1);
        Scenes.refusedKind(none, "8 0", 10);
        Scenes.allowedKind(none + Scenes.made("8 5"), "9", 2);
        Scenes.refusedKind(none + Scenes.made("9"), "8 5", 6);
    }

    /** "4 for 0, 10 and 11: a motion is pending". */
    private static void rule4() {
        String[] pending = {Q, Q + Scenes.made("7"), Scenes.ONE + Scenes.made("8 5"),
            Scenes.ONE + Scenes.made("9"), Q + Scenes.carried("7") + Scenes.made("10"),
            Q + Scenes.YES + Scenes.made("11")};
        for (String scene : pending) {
            for (int kind : ALONE) {
                Scenes.refusedKind(scene + "clause 5;", Integer.toString(kind), 4);
            }
        }
        Scenes.allowedKind(Q + Scenes.carried("7") + "clause 5;", "0", 1);
        Scenes.allowedKind(Q + Scenes.carried("7"), "10", 1);
        Scenes.allowedKind(Q + Scenes.YES, "11", 1);
    }

    /** "5 for 1 to 7: no question is pending". */
    private static void rule5() {
        String[] without = {Scenes.ONE, Scenes.ONE + Scenes.made("8 5"), Scenes.ONE + Scenes.made("9"),
            Q + Scenes.carried("7"), Q + Scenes.carried("7") + Scenes.made("10"),
            Q + Scenes.YES + Scenes.made("11"), Q + Scenes.YES, Q + Scenes.carried("3")};
        for (String scene : without) {
            for (int kind : ON_A_QUESTION) {
                Scenes.refusedKind(scene, Scenes.possible(kind), 5);
            }
        }
        Scenes.allowedKind(Scenes.ONE, "8 5", 1);
        Scenes.allowedKind(Scenes.ONE, "9", 1);
    }

    /** "6 for 1 to 9: its kind is not higher than that of the motion on top". */
    private static void rule6() {
        for (int top = 1; top <= 9; top++) {
            String scene = Q + Scenes.made(Scenes.possible(top));
            for (int kind = 1; kind <= 9; kind++) {
                if (kind > top) {
                    Scenes.allowedKind(scene, Scenes.possible(kind), 3);
                } else if (kind != 2 || top != 2) {
                    Scenes.refusedKind(scene, Scenes.possible(kind), 6);
                }
            }
        }
        Scenes.allowedKind(Q, "1", 2);
        Scenes.allowedKind(Q + Scenes.made("2 0 0 50"), "2 2 0 51", 3);
        Scenes.refusedKind(Q + Scenes.made("2 0 0 50"), "2 2 0 50", 10);
        Scenes.refusedKind(Q + Scenes.made("2 0 0 50") + Scenes.made("3"), "2 2 0 51", 6);
        Scenes.allowedKind(Q + Scenes.made("2 0 0 50") + Scenes.lost("3"), "2 2 0 51", 3);
    }

    /** 10 and 11 are higher than 8 and 9. */
    private static void rule6OnWhatIsMadeAlone() {
        String[] tops = {Q + Scenes.carried("7") + Scenes.made("10"),
            Q + Scenes.YES + Scenes.made("11")};
        for (String scene : tops) {
            Scenes.refusedKind(scene, "8 5", 6);
            Scenes.refusedKind(scene, "9", 6);
        }
        Scenes.refusedKind(Scenes.ONE + Scenes.made("8 5"), "8 5", 6);
        Scenes.allowedKind(Scenes.ONE + Scenes.made("8 5"), "9", 2);
        Scenes.refusedKind(Scenes.ONE + Scenes.made("9"), "9", 6);
        Scenes.refusedKind(Scenes.ONE + Scenes.made("9"), "8 5", 6);
    }

    /** "7 for 2: a secondary amendment is on top"; "The rule 7 is looked at before the rule 6." */
    private static void rule7AheadOfRule6() {
        String second = Q + Scenes.made("2 0 0 50") + Scenes.made("2 2 0 51");
        Scenes.refusedKind(second, "2 2 0 52", 7);
        Scenes.refusedKind(second, "2 0 1 0", 7);
        Scenes.refusedKind(second, "1", 6);
        Scenes.allowedKind(second, "3", 4);
        Scenes.allowedKind(second + Scenes.AGAINST, "2 2 0 52", 3);
        Scenes.allowedKind(second + Scenes.YES, "2 2 0 52", 3);
        Scenes.refusedKind(second + Scenes.made("3"), "2 2 0 52", 6);
    }

    /** "8 for 1 to 6: debate is closed". */
    private static void rule8() {
        String[] closed = {Q + Scenes.carried("6"), Q + Scenes.carried("5 1") + "speak 0;"};
        for (String scene : closed) {
            for (int kind = 1; kind <= 6; kind++) {
                Scenes.refusedKind(scene, Scenes.possible(kind), 8);
            }
            for (int kind = 7; kind <= 9; kind++) {
                Scenes.allowedKind(scene, Scenes.possible(kind), 2);
            }
        }
        String primary = Q + Scenes.made("2 0 0 50") + Scenes.carried("6");
        Scenes.refusedKind(primary, "2 2 0 51", 8);
        String oneLeft = Q + Scenes.carried("5 2") + "speak 0;";
        for (int kind = 1; kind <= 9; kind++) {
            Scenes.allowedKind(oneLeft, Scenes.possible(kind), 2);
        }
        for (int kind = 1; kind <= 5; kind++) {
            Scenes.allowedKind(Q + Scenes.lost("6"), Scenes.possible(kind), 2);
        }
    }

    private static void rule8EndsWhenDebateOpens() {
        String closed = Q + Scenes.carried("6");
        String[] anew = {closed + Scenes.carried("7") + Scenes.carried("10"),
            closed + Scenes.carried("9") + "open; next;", closed + "divide 1;" + Scenes.YES,
            closed + Scenes.YES + Scenes.main(10, 20), closed + Scenes.YES + Scenes.carried("11")};
        for (String scene : anew) {
            for (int kind : ON_A_QUESTION) {
                Scenes.allowedKind(scene, Scenes.possible(kind), 2);
            }
        }
        Scenes.refusedKind(closed + "divide 1;", "1", 8);
        Scenes.refusedKind(closed + Scenes.carried("8 5"), "1", 8);
        Scenes.refusedKind(closed + Scenes.lost("7"), "1", 8);
    }

    /** "9 for 1, 3, 5, 6 and 7: a motion of this kind was rejected since the question came up". */
    private static void rule9() {
        for (int kind = 1; kind <= 9; kind++) {
            boolean isOnce = kind == 1 || kind == 3 || kind >= 5 && kind <= 7;
            String scene = Q + Scenes.lost(Scenes.possible(kind));
            for (int other = 1; other <= 9; other++) {
                if (other == kind && isOnce) {
                    Scenes.refusedKind(scene, Scenes.possible(other), 9);
                } else {
                    Scenes.allowedKind(scene, Scenes.possible(other), 2);
                }
            }
        }
        Scenes.refusedKind(Q + Scenes.lost("3 0"), "3 1", 9);
        Scenes.refusedKind(Q + Scenes.lost("5 1"), "5 2", 9);
        Scenes.refusedKind(Q + Scenes.made("3") + Scenes.lost("7"), "7", 9);
    }

    /** "and since then no motion of any kind was adopted". */
    private static void rule9EndsWithAnyAdoption() {
        String[] adopted = {Scenes.carried("2 0 0 50"), Scenes.carried("5 2"), Scenes.carried("8 5"),
            Scenes.made("2 0 0 50") + Scenes.carried("2 2 0 51") + Scenes.AGAINST};
        for (int kind : ONCE) {
            String lost = Scenes.lost(Scenes.possible(kind));
            for (String carried : adopted) {
                if (kind != 5 || !carried.equals(adopted[1])) {
                    Scenes.allowedKind(Q + lost + carried, Scenes.possible(kind), 2);
                    Scenes.refusedKind(Q + carried + lost, Scenes.possible(kind), 9);
                    Scenes.refusedKind(Q + lost + carried + lost, Scenes.possible(kind), 9);
                }
            }
        }
        Scenes.allowedKind(Q + Scenes.lost("7") + Scenes.carried("6"), "7", 2);
        Scenes.refusedKind(Q + Scenes.carried("6") + Scenes.lost("7"), "7", 9);
        Scenes.allowedKind(Q + Scenes.lost("7") + Scenes.lost("3") + Scenes.carried("8 5"), "7", 2);
        Scenes.allowedKind(Q + Scenes.lost("7") + Scenes.lost("3") + Scenes.carried("8 5"), "3", 2);
    }

    /** "comes up, also as a next part or by a reconsideration": no adoption lies between. */
    private static void rule9EndsWhenAQuestionComesUp() {
        for (int kind : ONCE) {
            String lost = Scenes.lost(Scenes.possible(kind));
            String motion = Scenes.possible(kind);
            Scenes.allowedKind(Q + lost + Scenes.AGAINST + Scenes.main(10, 20), motion, 2);
            Scenes.allowedKind(Q + "divide 1;" + lost + Scenes.AGAINST, motion, 2);
            Scenes.allowedKind(Q + lost + Scenes.AGAINST + Scenes.carried("11"), motion, 2);
        }
    }

    /** "or is taken up, from a committee, a minute or the table; .. in rule 9 these are the same". */
    private static void rule9EndsWhenAQuestionIsTakenUp() {
        String waiting = "delegate 1;" + Scenes.main(10, 20, 30) + "#" + Scenes.main(10, 20);
        for (int kind : ONCE) {
            String lost = Scenes.lost(Scenes.possible(kind)) + Scenes.AGAINST;
            String motion = Scenes.possible(kind);
            String referred = waiting.replace("#", Scenes.carried("3 2"));
            Scenes.allowedKind(referred + lost + "report 2;", motion, 2);
            String postponed = waiting.replace("#", Scenes.carried("4 1") + "pass 1;");
            Scenes.allowedKind(postponed + lost + "next;", motion, 2);
            String adjourned = waiting.replace("#", Scenes.carried("9") + "open;");
            Scenes.allowedKind(adjourned + lost + "next;", motion, 2);
            String table = waiting.replace("#", Scenes.carried("7"));
            Scenes.allowedKind(table + lost + Scenes.carried("10"), motion, 2);
        }
    }

    /** What is neither an adoption nor a question that comes up leaves the rule 9 in force. */
    private static void rule9StaysOtherwise() {
        String lost = Q + Scenes.lost("7");
        String[] others = {"speak 0;", "divide 1;", "pass 5;", Scenes.lost("8 5"), Scenes.lost("3"),
            "presence 0 0; presence 0 1;", "quorum 10;", "clause 5;", "delegate 1;", "image;",
            Scenes.made("3"), "image; undo;"};
        for (String other : others) {
            Scenes.refusedKind(lost + other, "7", 9);
        }
        Scenes.allowedKind(Q + "image;" + Scenes.lost("7") + "undo;", "7", 2);
        Scenes.refusedKind(lost + "image;" + Scenes.carried("8 5") + "undo;", "7", 9);
    }
}
