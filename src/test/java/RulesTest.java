/** The promises 6 and 14: motions and the rules that refuse them, and 15: what is pending. */
public final class RulesTest {
    private static final int MOST = Integer.MAX_VALUE, LEAST = Integer.MIN_VALUE;

    private RulesTest() { }

    public static void main(String[] args) {
        errors();
        moveAnswersAsTheRule();
        rule1();
        rule2();
        rule3();
        rule4();
        rule5();
        rule6();
        rule7();
        rule8();
        rule9();
        numbersOfAMainMotion();
        numbersOfAPrimaryAmendment();
        numbersOfASecondaryAmendment();
        numbersOfReferring();
        numbersOfPostponing();
        numbersOfLimiting();
        roomOnTheTable();
        numbersOfARecess();
        somethingToTakeUp();
        somethingToReconsider();
        promise15();
        Checks.finish();
    }

    private static void errors() {
        AssemblyChair chair = Halls.with(1);
        Checks.due("delegate -1", chair.rule(-1, 0, 0, 0, 0), Halls.NONE);
        Checks.due("delegate 1", chair.rule(1, 0, 0, 0, 0), Halls.NONE);
        Checks.due("kind -1", Halls.rule(chair, -1), Halls.NONE);
        Checks.due("kind 12", Halls.rule(chair, 12), Halls.NONE);
        Checks.due("kind 12 with a number", Halls.rule(chair, 12, 1), Halls.NONE);
        for (int kind : new int[] {0, 1, 6, 7, 9, 10, 11}) {
            Checks.due("a needless a of " + kind, Halls.rule(chair, kind, 1), Halls.BAD);
        }
        for (int kind : new int[] {0, 1, 3, 4, 5, 6, 7, 8, 9, 10, 11}) {
            Checks.due("a needless b of " + kind, Halls.rule(chair, kind, 0, -1), Halls.BAD);
            Checks.due("a needless c of " + kind, Halls.rule(chair, kind, 0, 0, 1), Halls.BAD);
            Checks.due("a move with it", Halls.move(chair, kind, 0, 0, 1), Halls.BAD);
        }
        Checks.due("nothing came of it", chair.pending(-1, 0), 0);
        Checks.due("an amendment needs all", Halls.rule(chair, 2, 1, 1, 1), 5);
        Halls.carry(chair, 9);
        Checks.due("errors are ahead of rules", Halls.rule(chair, 0, 1), Halls.BAD);
    }

    private static void moveAnswersAsTheRule() {
        AssemblyChair chair = Halls.with(1);
        Checks.due("rule 10", Halls.move(chair, 0), -110);
        Checks.due("no delegate", chair.move(1, 0, 0, 0, 0), Halls.NONE);
        Checks.due("a main motion", Halls.moveMain(chair, 5, 6), 1);
        Checks.due("the rule alone moves nothing", Halls.rule(chair, 3, 2), 0);
        Checks.due("still one", chair.pending(-1, 0), 1);
        int height = 1;
        for (int kind = 1; kind <= 9; kind++) {
            int a = kind == 2 ? 2 : kind == 4 || kind == 5 || kind == 8 ? 1 : 0;
            int got = chair.move(0, kind, a, 0, kind == 2 ? 9 : 0);
            height++;
            Checks.due("a higher kind " + kind, got, height);
        }
        Checks.due("all lie on one another", Halls.kindsPending(chair), 0, 1, 2, 3, 4, 5, 6, 7, 8, 9);
        Checks.due("motions made", chair.count(13), 10);
        Checks.due("the tenth entry", Halls.entryOf(chair, 9), 0, 0, 0, 9);
        Checks.due("a refused motion is no entry", chair.entry(-1, 0), 10);
    }

    private static void rule1() {
        AssemblyChair chair = Halls.with(1);
        Halls.carry(chair, 9);
        chair.presence(0, 0);
        for (int kind = 0; kind <= 11; kind++) {
            Checks.due("closed, " + kind, Halls.rule(chair, kind), 1);
        }
    }

    private static void rule2() {
        AssemblyChair chair = Halls.with(1, 1);
        chair.presence(1, 0);
        chair.quorum(100);
        for (int kind = 0; kind <= 11; kind++) {
            Checks.due("absent, " + kind, chair.rule(1, kind, 0, 0, 0), 2);
        }
    }

    private static void rule3() {
        AssemblyChair chair = Halls.with(1, 1);
        chair.presence(1, 0);
        chair.quorum(51);
        for (int kind = 0; kind <= 11; kind++) {
            int due = kind == 8 ? 10 : kind == 9 ? 0 : 3;
            Checks.due("no quorum, " + kind, Halls.rule(chair, kind), due);
        }
        Checks.due("no quorum, a recess", Halls.rule(chair, 8, 1), 0);
    }

    private static void rule4() {
        AssemblyChair chair = Halls.withQuestion(1);
        for (int kind : new int[] {0, 10, 11}) {
            Checks.due("a main motion is pending, " + kind, Halls.rule(chair, kind), 4);
        }
        AssemblyChair recess = Halls.with(1);
        Halls.move(recess, 8, 1);
        recess.clause(1);
        for (int kind : new int[] {0, 10, 11}) {
            Checks.due("a recess is pending, " + kind, Halls.rule(recess, kind), 4);
        }
    }

    private static void rule5() {
        AssemblyChair chair = Halls.with(1);
        for (int kind = 1; kind <= 7; kind++) {
            Checks.due("nothing is pending, " + kind, Halls.rule(chair, kind), 5);
        }
        Halls.move(chair, 8, 1);
        for (int kind = 1; kind <= 7; kind++) {
            Checks.due("a recess is pending, " + kind, Halls.rule(chair, kind), 5);
        }
        Halls.adopt(chair);
        Halls.moveMain(chair, 1);
        Halls.carry(chair, 7);
        Halls.move(chair, 10);
        for (int kind = 1; kind <= 7; kind++) {
            Checks.due("taking up is pending, " + kind, Halls.rule(chair, kind), 5);
        }
        Halls.adopt(chair);
        Checks.due("then the question is", Halls.rule(chair, 7), 0);
    }

    private static void rule6() {
        for (int top = 1; top <= 9; top++) {
            AssemblyChair chair = Halls.withQuestion(1);
            int a = top == 4 || top == 5 || top == 8 ? 1 : 0;
            chair.move(0, top, a, 0, 0);
            for (int kind = 1; kind <= top; kind++) {
                boolean isSecondary = top == 2 && kind == 2;
                Checks.due(kind + " on " + top, Halls.rule(chair, kind), isSecondary ? 10 : 6);
            }
        }
        AssemblyChair reconsidering = Halls.withQuestion(1);
        Halls.adopt(reconsidering);
        Halls.move(reconsidering, 11);
        Checks.due("a recess on 11", Halls.rule(reconsidering, 8, 1), 6);
        Checks.due("9 on 11", Halls.rule(reconsidering, 9), 6);
        AssemblyChair recess = Halls.with(1);
        Halls.move(recess, 8, 1);
        Checks.due("8 on 8", Halls.rule(recess, 8, 1), 6);
        Checks.due("9 on 8", Halls.move(recess, 9), 2);
        Checks.due("9 on 9", Halls.rule(recess, 9), 6);
    }

    private static void rule7() {
        AssemblyChair chair = Halls.withQuestion(1, 2);
        Halls.move(chair, 2, 0, 0, 5);
        Halls.move(chair, 2, 2, 0, 6);
        Checks.due("a third degree", Halls.rule(chair, 2, 2, 0, 7), 7);
        Checks.due("a lower one", Halls.rule(chair, 1), 6);
        Checks.due("a higher one", Halls.rule(chair, 3, 0), 0);
        Halls.move(chair, 3, 0);
        Checks.due("2 on 3", Halls.rule(chair, 2, 2, 0, 7), 6);
    }

    private static void rule8() {
        AssemblyChair chair = Halls.withQuestion(1, 2);
        Halls.carry(chair, 6);
        for (int kind = 1; kind <= 6; kind++) {
            Checks.due("debate is closed, " + kind, Halls.rule(chair, kind), 8);
        }
        Checks.due("laying on the table", Halls.rule(chair, 7), 0);
        Checks.due("a recess", Halls.rule(chair, 8, 1), 0);
        Halls.move(chair, 7);
        Checks.due("6 is ahead of 8", Halls.rule(chair, 6), 6);
        AssemblyChair spoken = Halls.withQuestion(1, 2);
        Halls.carry(spoken, 5, 1);
        Checks.due("a speech is left", Halls.rule(spoken, 1), 0);
        spoken.speak(0);
        Checks.due("none is left", Halls.rule(spoken, 1), 8);
    }

    private static void rule9() {
        for (int kind = 1; kind <= 9; kind++) {
            AssemblyChair chair = Halls.withQuestion(1);
            int a = kind == 4 || kind == 5 || kind == 8 ? 1 : 0;
            int c = kind == 2 ? 5 : 0;
            chair.move(0, kind, a, 0, c);
            Halls.reject(chair);
            boolean isOnce = kind == 1 || kind == 3 || kind >= 5 && kind <= 7;
            Checks.due("again " + kind, chair.rule(0, kind, a, 0, c), isOnce ? 9 : 0);
            Checks.due("another kind", chair.rule(0, kind == 7 ? 6 : 7, 0, 0, 0), 0);
            Halls.carry(chair, 8, 1);
            Checks.due("after a recess " + kind, chair.rule(0, kind, a + 1 - (a == 0 ? 1 : 0), 0, c), 0);
        }
        rejectedAfterAdopted();
        rule9EndsWithTheQuestion();
    }

    private static void rejectedAfterAdopted() {
        AssemblyChair chair = Halls.withQuestion(1);
        Halls.carry(chair, 8, 1);
        Halls.move(chair, 7);
        Halls.reject(chair);
        Halls.move(chair, 6);
        Halls.reject(chair);
        Checks.due("both were rejected, 7", Halls.rule(chair, 7), 9);
        Checks.due("both were rejected, 6", Halls.rule(chair, 6), 9);
        Checks.due("9 is ahead of 10", new int[] {rejectedLimit(chair)}, 9);
        chair.divide(1);
        Checks.due("speaking changes nothing", chair.speak(0), 1);
        Checks.due("still", Halls.rule(chair, 7), 9);
    }

    private static int rejectedLimit(AssemblyChair chair) {
        Halls.move(chair, 5, 1);
        Halls.reject(chair);
        return Halls.rule(chair, 5, 21);
    }

    private static void rule9EndsWithTheQuestion() {
        AssemblyChair chair = Halls.withQuestion(1, 2);
        chair.divide(1);
        Halls.move(chair, 7);
        Halls.reject(chair);
        Halls.reject(chair);
        Checks.due("the next part", Halls.rule(chair, 7), 0);
        Halls.move(chair, 7);
        Halls.reject(chair);
        Halls.carry(chair, 3, 0);
        chair.report(0);
        Checks.due("taken up", Halls.rule(chair, 7), 0);
    }

    private static void numbersOfAMainMotion() {
        AssemblyChair chair = Halls.with(1);
        Checks.due("an empty buffer", Halls.rule(chair, 0), 10);
        for (int i = 0; i < 20; i++) {
            Checks.due("a question", Halls.moveMain(chair, i), 1);
            Halls.reject(chair);
        }
        Checks.due("empty is ahead of full", Halls.rule(chair, 0), 10);
        Checks.due("a 21st", Halls.moveMain(chair, 1), -111);
        Checks.due("the buffer is as it was", chair.clause(2), 2);
        Checks.due("questions", chair.count(6), 20);
    }

    private static void numbersOfAPrimaryAmendment() {
        AssemblyChair chair = Halls.withQuestion(10, 20, 30);
        Checks.due("insert first", Halls.rule(chair, 2, 0, 0, 0), 0);
        Checks.due("insert last", Halls.rule(chair, 2, 0, 3, 99), 0);
        Checks.due("insert behind", Halls.rule(chair, 2, 0, 4, 5), 10);
        Checks.due("insert ahead", Halls.rule(chair, 2, 0, -1, 5), 10);
        Checks.due("insert 100", Halls.rule(chair, 2, 0, 0, 100), 10);
        Checks.due("insert -1", Halls.rule(chair, 2, 0, 0, -1), 10);
        Checks.due("strike last", Halls.rule(chair, 2, 1, 2, 0), 0);
        Checks.due("strike behind", Halls.rule(chair, 2, 1, 3, 0), 10);
        Checks.due("strike ahead", Halls.rule(chair, 2, 1, -1, 0), 10);
        Checks.due("strike a clause", Halls.rule(chair, 2, 1, 0, 10), 10);
        Checks.due("replace", Halls.rule(chair, 2, 2, 2, 0), 0);
        Checks.due("replace by the same", Halls.rule(chair, 2, 2, 2, 30), 10);
        Checks.due("replace behind", Halls.rule(chair, 2, 2, 3, 5), 10);
        Checks.due("replace ahead", Halls.rule(chair, 2, 2, -1, 5), 10);
        Checks.due("replace by 100", Halls.rule(chair, 2, 2, 0, 100), 10);
        Checks.due("replace by -1", Halls.rule(chair, 2, 2, 0, -1), 10);
        Checks.due("form 3", Halls.rule(chair, 2, 3, 0, 5), 10);
        Checks.due("form -1", Halls.rule(chair, 2, -1, 0, 5), 10);
        Checks.due("far numbers", Halls.rule(chair, 2, 0, MOST, LEAST), 10);
        Checks.due("far numbers to replace", Halls.rule(chair, 2, 2, LEAST, 5), 10);
        AssemblyChair one = Halls.withQuestion(1);
        Checks.due("strike the only one", Halls.rule(one, 2, 1, 0, 0), 10);
        AssemblyChair eight = Halls.withQuestion(1, 2, 3, 4, 5, 6, 7, 8);
        Checks.due("insert a ninth", Halls.rule(eight, 2, 0, 8, 5), 10);
        Checks.due("strike one of eight", Halls.rule(eight, 2, 1, 7, 0), 0);
    }

    private static void numbersOfASecondaryAmendment() {
        AssemblyChair insert = Halls.withQuestion(10, 20);
        Halls.move(insert, 2, 0, 1, 5);
        Checks.due("elsewhere", Halls.rule(insert, 2, 0, 2, 0), 0);
        Checks.due("at the same place", Halls.rule(insert, 2, 0, 1, 0), 10);
        Checks.due("behind", Halls.rule(insert, 2, 0, 3, 0), 10);
        Checks.due("ahead", Halls.rule(insert, 2, 0, -1, 0), 10);
        Checks.due("elsewhere with a clause", Halls.rule(insert, 2, 0, 2, 7), 10);
        Checks.due("another clause", Halls.rule(insert, 2, 2, 0, 10), 0);
        Checks.due("the same clause", Halls.rule(insert, 2, 2, 0, 5), 10);
        Checks.due("clause 100", Halls.rule(insert, 2, 2, 0, 100), 10);
        Checks.due("another clause with a place", Halls.rule(insert, 2, 2, 1, 6), 10);
        Checks.due("form 1", Halls.rule(insert, 2, 1, 0, 0), 10);
        Checks.due("form 3", Halls.rule(insert, 2, 3, 0, 0), 10);
        Checks.due("form -1", Halls.rule(insert, 2, -1, 0, 0), 10);
        AssemblyChair strike = Halls.withQuestion(10, 20);
        Halls.move(strike, 2, 1, 1, 0);
        Checks.due("strike another one", Halls.rule(strike, 2, 0, 0, 0), 0);
        Checks.due("strike the same one", Halls.rule(strike, 2, 0, 1, 0), 10);
        Checks.due("strike none", Halls.rule(strike, 2, 0, 2, 0), 10);
        Checks.due("strike a clause", Halls.rule(strike, 2, 2, 0, 5), 10);
        AssemblyChair replace = Halls.withQuestion(10, 20, 30);
        Halls.move(replace, 2, 2, 1, 30);
        Checks.due("replace another one", Halls.rule(replace, 2, 0, 0, 0), 0);
        Checks.due("replace what is that", Halls.rule(replace, 2, 0, 2, 0), 10);
        Checks.due("replace by what is there", Halls.rule(replace, 2, 2, 0, 20), 10);
        Checks.due("replace by the same", Halls.rule(replace, 2, 2, 0, 30), 10);
        Checks.due("replace by another", Halls.rule(replace, 2, 2, 0, 10), 0);
        Checks.due("replace behind", Halls.rule(replace, 2, 0, 3, 0), 10);
    }

    private static void numbersOfReferring() {
        AssemblyChair chair = Halls.withQuestion(1);
        Checks.due("committee -1", Halls.rule(chair, 3, -1), 10);
        Checks.due("committee 4", Halls.rule(chair, 3, 4), 10);
        Checks.due("committee 0", Halls.rule(chair, 3, 0), 0);
        Halls.carry(chair, 3, 3);
        Halls.moveMain(chair, 2);
        Checks.due("a busy committee", Halls.rule(chair, 3, 3), 11);
        Checks.due("another committee", Halls.rule(chair, 3, 2), 0);
    }

    private static void numbersOfPostponing() {
        AssemblyChair chair = Halls.withQuestion(1);
        chair.pass(10);
        Checks.due("to this minute", Halls.rule(chair, 4, 10), 10);
        Checks.due("to the next", Halls.rule(chair, 4, 11), 0);
        Checks.due("to the last", Halls.rule(chair, 4, 9999), 0);
        Checks.due("past the last", Halls.rule(chair, 4, 10000), 10);
        Checks.due("to an earlier one", Halls.rule(chair, 4, -1), 10);
    }

    private static void numbersOfLimiting() {
        AssemblyChair chair = Halls.withQuestion(1);
        Checks.due("0 speeches", Halls.rule(chair, 5, 0), 10);
        Checks.due("1 speech", Halls.rule(chair, 5, 1), 0);
        Checks.due("20 speeches", Halls.rule(chair, 5, 20), 0);
        Checks.due("21 speeches", Halls.rule(chair, 5, 21), 10);
    }

    private static void roomOnTheTable() {
        AssemblyChair chair = Halls.with(1);
        for (int i = 0; i < 3; i++) {
            Halls.moveMain(chair, i);
            Checks.due("room for one", Halls.carry(chair, 7), 1);
        }
        Halls.moveMain(chair, 4);
        Checks.due("no room", Halls.rule(chair, 7), 11);
    }

    private static void numbersOfARecess() {
        AssemblyChair chair = Halls.with(1);
        Checks.due("0 minutes", Halls.rule(chair, 8, 0), 10);
        Checks.due("1 minute", Halls.rule(chair, 8, 1), 0);
        Checks.due("500 minutes", Halls.rule(chair, 8, 500), 0);
        Checks.due("501 minutes", Halls.rule(chair, 8, 501), 10);
        Checks.due("most minutes", Halls.rule(chair, 8, MOST), 10);
        for (int i = 0; i < 19; i++) {
            chair.pass(500);
        }
        chair.pass(400);
        Checks.due("up to 9999", Halls.rule(chair, 8, 99), 0);
        Checks.due("up to 10000", Halls.rule(chair, 8, 100), 10);
    }

    private static void somethingToTakeUp() {
        AssemblyChair chair = Halls.with(1);
        Checks.due("an empty table", Halls.rule(chair, 10), 11);
        Halls.moveMain(chair, 1);
        Halls.carry(chair, 3, 0);
        Checks.due("a committee is no table", Halls.rule(chair, 10), 11);
        chair.report(0);
        Halls.carry(chair, 7);
        Checks.due("something lies there", Halls.rule(chair, 10), 0);
    }

    private static void somethingToReconsider() {
        AssemblyChair chair = Halls.with(3, 2, 1, 1);
        Checks.due("none was decided", Halls.rule(chair, 11), 11);
        Halls.moveMain(chair, 1);
        Halls.move(chair, 1);
        chair.decide(1, 0);
        Checks.due("dropped is not decided", Halls.rule(chair, 11), 11);
        Halls.moveMain(chair, 2);
        chair.presence(3, 0);
        chair.decide(1 | 8, 2);
        chair.presence(3, 1);
        Checks.due("who won", chair.rule(0, 11, 0, 0, 0), 0);
        Checks.due("who lost", chair.rule(1, 11, 0, 0, 0), 10);
        Checks.due("who did not vote", chair.rule(2, 11, 0, 0, 0), 10);
        Checks.due("who was absent", chair.rule(3, 11, 0, 0, 0), 10);
        chair.delegate(1);
        Checks.due("who was no delegate", chair.rule(4, 11, 0, 0, 0), 10);
        Checks.due("a motion to reconsider", chair.move(0, 11, 0, 0, 0), 1);
        chair.decide(0, 1);
        Checks.due("once", chair.rule(0, 11, 0, 0, 0), 10);
        Halls.moveMain(chair, 3);
        chair.decide(2, 1);
        Checks.due("the no votes won", chair.rule(0, 11, 0, 0, 0), 0);
        Checks.due("the yes votes lost", chair.rule(1, 11, 0, 0, 0), 10);
        Halls.moveMain(chair, 3);
        chair.decide(2, 4 | 8);
        Checks.due("a tie: the no votes won", chair.rule(2, 11, 0, 0, 0), 0);
        Checks.due("a tie: the yes votes lost", chair.rule(1, 11, 0, 0, 0), 10);
    }

    private static void promise15() {
        AssemblyChair chair = Halls.with(1, 1);
        Checks.due("none", chair.pending(-1, 9), 0);
        Checks.due("no place", chair.pending(0, 0), Halls.NONE);
        Halls.moveMain(chair, 10, 20);
        chair.move(1, 2, 0, 1, 5);
        chair.move(0, 2, 0, 2, 0);
        chair.move(1, 4, 77, 0, 0);
        Checks.due("four", chair.pending(-1, -7), 4);
        int[][] all = {{0, 0, 0, 0, 0, 0}, {2, 1, 0, 1, 5, 1}, {2, 0, 0, 2, 0, 2}, {4, 1, 77, 0, 0, 0}};
        for (int i = 0; i < 4; i++) {
            for (int what = 0; what < 6; what++) {
                Checks.due("pending " + i + " " + what, chair.pending(i, what), all[i][what]);
            }
        }
        Checks.due("what 6", chair.pending(0, 6), Halls.NONE);
        Checks.due("what -1", chair.pending(0, -1), Halls.NONE);
        Checks.due("place 4", chair.pending(4, 0), Halls.NONE);
        Checks.due("place -2", chair.pending(-2, 0), Halls.NONE);
        Checks.due("far places", chair.pending(MOST, 0), Halls.NONE);
        chair.decide(0, 0);
        chair.decide(1, 0);
        Checks.due("its position as it is now", chair.pending(1, 3), 2);
        Checks.due("its clause as it is now", chair.pending(1, 4), 5);
    }
}
