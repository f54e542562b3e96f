/**
 * The minutes, the resolutions and the counts, promises 19 to 21 and 23: a test for each sentence
 * that names an edge.
 */
public final class MinutesEdgeTest {
    private static final String Q = Scenes.ONE + Scenes.main(10, 20, 30);
    private static final String TWO = "delegate 1; delegate 1; clause 10; clause 20; move 1 0 0 0 0;";
    private static final String[] FAR = {"MIN", "MAX", "256", "32"};
    /** A resolution and 119 entries, as a question is pending on which delegates can speak. */
    private static final String ALMOST = Q + Scenes.YES + Scenes.main(5)
        + Scenes.times(116, "speak 0;");

    private MinutesEdgeTest() { }

    public static void main(String[] args) {
        entriesOfMotions();
        entriesOfDecisions();
        entriesOfSpeechesAndDivisions();
        entriesOfWhatIsTakenUp();
        whatIsNoEntry();
        anEntryHasItsMinute();
        noSuchEntry();
        theFirstHundredAndTwentyAreKept();
        allEntriesAreCounted();
        noSuchResolutionOrPosition();
        resolutionsInTheOrderOfTheirAdoption();
        replayedFromTheMinutes();
        replayedUpToAHundredAndTwentyEntries();
        noSuchResolutionIsAheadOfTooManyEntries();
        countsThatAreNone();
        countsOfMotions();
        countsOfPlaces();
        countsOfMainMotionsNotMade();
        Checks.finish();
    }

    /** "0 a motion is made, with its kind"; the mover is its delegate. */
    private static void entriesOfMotions() {
        Scenes.lastEntryDue(TWO, 0, 0, 1, 0);
        for (int kind = 1; kind <= 9; kind++) {
            Scenes.lastEntryDue(TWO + Scenes.made(Scenes.possible(kind)), 0, 0, 0, kind);
            String other = Scenes.motion(Scenes.possible(kind)).substring(1);
            Scenes.lastEntryDue(TWO + "move 1" + other, 0, 0, 1, kind);
        }
        Scenes.lastEntryDue(TWO + Scenes.made("7") + "decide 3 0; move 1 10 0 0 0;", 0, 0, 1, 10);
        Scenes.lastEntryDue(TWO + "decide 3 0; move 1 11 0 0 0;", 0, 0, 1, 11);
        Scenes.lastEntryDue(TWO + Scenes.made("2 0 0 5") + "move 1 2 2 0 6;", 0, 0, 1, 2);
    }

    /** "1 one is adopted, with its kind; 2 one is rejected, with its kind"; its mover. */
    private static void entriesOfDecisions() {
        Scenes.lastEntryDue(TWO + "decide 3 0;", 0, 1, 1, 0);
        Scenes.lastEntryDue(TWO + "decide 0 3;", 0, 2, 1, 0);
        for (int kind = 1; kind <= 9; kind++) {
            String made = Scenes.made(Scenes.possible(kind));
            Scenes.lastEntryDue(TWO + made + "decide 3 0;", 0, 1, 0, kind);
            Scenes.lastEntryDue(TWO + made + "decide 0 3;", 0, 2, 0, kind);
        }
        String laid = TWO + Scenes.made("7") + "decide 3 0; move 1 10 0 0 0;";
        Scenes.lastEntryDue(laid + "decide 3 0;", 0, 1, 1, 10);
        Scenes.lastEntryDue(laid + "decide 0 3;", 0, 2, 1, 10);
        String decided = TWO + "decide 3 0; move 0 11 0 0 0;";
        Scenes.lastEntryDue(decided + "decide 3 0;", 0, 1, 0, 11);
        Scenes.lastEntryDue(decided + "decide 0 3;", 0, 2, 0, 11);
    }

    /** "3 a speech, with the number of speeches ..; 4 .. with the position .. the mover". */
    private static void entriesOfSpeechesAndDivisions() {
        Scenes.lastEntryDue(TWO + "speak 0;", 0, 3, 0, 1);
        Scenes.lastEntryDue(TWO + "speak 0; speak 1; speak 0;", 0, 3, 0, 2);
        Scenes.lastEntryDue(TWO + "speak 0; speak 0; speak 1;", 0, 3, 1, 1);
        Scenes.lastEntryDue(TWO + "divide 1;", 0, 4, 1, 1);
        Scenes.lastEntryDue(Q + "divide 2;", 0, 4, 0, 2);
        Scenes.due(TWO + "divide 1;", "entry -1 0", 2);
    }

    /** "5 .. from a committee or a minute, with the number of the question, 99 without one". */
    private static void entriesOfWhatIsTakenUp() {
        String stack = TWO + Scenes.made("1");
        Scenes.lastEntryDue(stack + Scenes.made("3") + "decide 3 0; report 0;", 0, 5, 1, 0);
        Scenes.lastEntryDue(stack + Scenes.made("4 7") + "decide 3 0; pass 9; next;", 9, 5, 1, 0);
        Scenes.lastEntryDue(stack + Scenes.made("9") + "decide 3 0; open; next;", 0, 5, 1, 0);
        String recess = "delegate 1; delegate 1; move 1 8 5 0 0;" + Scenes.made("9") + "decide 3 0;";
        Scenes.lastEntryDue(recess + "open; next;", 0, 5, 1, 99);
        String second = "delegate 1; delegate 1;" + Scenes.main(1) + "decide 0 3;" + Scenes.main(2)
            + "move 1 3 2 0 0; decide 3 0; report 2;";
        Scenes.lastEntryDue(second, 0, 5, 0, 1);
        String table = TWO + Scenes.made("7") + "decide 3 0;" + Scenes.made("10") + "decide 3 0;";
        Scenes.lastEntryDue(table, 0, 1, 0, 10);
        Scenes.due(table, "entry -1 0", 5);
    }

    /** "Every motion made, decision, speech, division, and question taken up" and nothing else. */
    private static void whatIsNoEntry() {
        String others = "delegate 2; presence 1 0; presence 1 1; quorum 40; clause 5; pass 3; image;"
            + "store 0 0 1; again 0 1; copy 0 1 1;";
        Scenes.due(Q + Scenes.lost("7") + others, "entry -1 0", 3);
        Scenes.due(Scenes.ONE + Scenes.carried("9") + "open;", "entry -1 0", 2);
        Scenes.due(Q + "divide 1;" + Scenes.YES, "entry -1 0", 3);
        Scenes.due(Q + Scenes.YES + Scenes.carried("11"), "entry -1 0", 4);
        Scenes.due(Q + "image; speak 0; undo;", "entry -1 0", 1);
        Scenes.due(Q + "image; speak 0; undo;", "entry 1 0", Scenes.NONE);
        Scenes.due("", "entry -1 0", 0);
    }

    /** "An entry has its minute": that of the call, and of a recess the one at which it begins. */
    private static void anEntryHasItsMinute() {
        String later = "pass 7;" + Q + "pass 1;";
        Scenes.due(later, "entry 0 0", 7);
        Scenes.lastEntryDue(later + "speak 0;", 8, 3, 0, 1);
        Scenes.lastEntryDue(later + "divide 1;", 8, 4, 0, 1);
        Scenes.lastEntryDue(later + Scenes.YES, 8, 1, 0, 0);
        Scenes.lastEntryDue(later + Scenes.made("8 5") + "pass 2;" + Scenes.YES, 10, 1, 0, 8);
        Scenes.lastEntryDue(later + Scenes.carried("8 5") + "speak 0;", 13, 3, 0, 1);
        Scenes.lastEntryDue(Scenes.times(19, "pass 500;") + "pass 499;" + Q, 9999, 0, 0, 0);
    }

    /** "NONE if there is no such kept entry or what is invalid". */
    private static void noSuchEntry() {
        Scenes.dueOf(Q, "entry 0 #", 0, 0, 0, 0, -1);
        Scenes.due(Q, "entry 0 -1", Scenes.NONE);
        Scenes.due(Q, "entry 1 0", Scenes.NONE);
        Scenes.due(Q, "entry -2 0", Scenes.NONE);
        Scenes.due("", "entry 0 0", Scenes.NONE);
        for (String far : FAR) {
            Scenes.due(Q, "entry " + far + " 0", Scenes.NONE);
            Scenes.due(Q, "entry 0 " + far, Scenes.NONE);
            Scenes.due(Q, "entry -1 " + far, 1);
        }
    }

    /** "the first 120 are kept". */
    private static void theFirstHundredAndTwentyAreKept() {
        Scenes.due(ALMOST, "entry -1 0", 119);
        Scenes.due(ALMOST, "entry 118 3", 116);
        Scenes.due(ALMOST, "entry 119 3", Scenes.NONE);
        Scenes.due(ALMOST + "speak 0;", "entry 119 3", 117);
        Scenes.due(ALMOST + "speak 0;", "entry 120 3", Scenes.NONE);
        Scenes.due(ALMOST + "speak 0; speak 0;", "entry 119 3", 117);
        Scenes.due(ALMOST + "speak 0; speak 0;", "entry 120 0", Scenes.NONE);
        Scenes.due(ALMOST + "image; speak 0; undo;", "entry 119 0", Scenes.NONE);
    }

    /** "-1 for the number of all entries, those not kept included"; "any value for" it. */
    private static void allEntriesAreCounted() {
        Scenes.due(ALMOST + "speak 0;", "entry -1 0", 120);
        Scenes.due(ALMOST + "speak 0; speak 0;", "entry -1 9", 121);
        Scenes.due(ALMOST + Scenes.times(180, "speak 0;"), "entry -1 -9", 299);
    }

    /** Promise 19: "NONE if there is no such resolution or position". */
    private static void noSuchResolutionOrPosition() {
        String one = Q + Scenes.YES;
        Scenes.dueOf(one, "resolution 0 #", 10, 20, 30, -1);
        Scenes.due(one, "resolution 0 -1", 3);
        Scenes.due(one, "resolution 0 -2", 0);
        Scenes.due(one, "resolution 0 -3", Scenes.NONE);
        for (String i : new String[] {"0", "-1", "-2", "-3"}) {
            Scenes.due(one, "resolution 1 " + i, Scenes.NONE);
            Scenes.due(one, "resolution -1 " + i, Scenes.NONE);
            Scenes.due(Q, "resolution 0 " + i, Scenes.NONE);
            Scenes.due(Q + Scenes.AGAINST, "resolution 0 " + i, Scenes.NONE);
            Scenes.due(one + Scenes.carried("11"), "resolution 0 " + i, Scenes.NONE);
        }
        for (String far : FAR) {
            Scenes.due(one, "resolution " + far + " -2", Scenes.NONE);
            Scenes.due(one, "resolution 0 " + far, Scenes.NONE);
        }
    }

    /** "resolution: the resolution, from 0 in the order of their adoption". */
    private static void resolutionsInTheOrderOfTheirAdoption() {
        String laid = Scenes.ONE + Scenes.main(1) + Scenes.carried("7") + Scenes.main(2) + Scenes.YES
            + Scenes.main(3) + Scenes.AGAINST + Scenes.carried("10") + Scenes.YES;
        Scenes.dueOf(laid, "resolution # -2", 1, 0, -1);
        Scenes.dueOf(laid, "resolution # 0", 2, 1, -1);
        Scenes.dueOf(laid, "question # 1", 1, 0, -5);
        Scenes.due(laid, "count 7", 2);
    }

    /** "its question's first text, with all adopted primary amendments applied .., and all divisions". */
    private static void replayedFromTheMinutes() {
        String five = Scenes.ONE + Scenes.main(10, 20, 30, 40, 50);
        String[] firsts = {"", Scenes.carried("2 0 0 60"), Scenes.carried("2 1 4"),
            Scenes.carried("2 2 1 60"), Scenes.lost("2 0 0 60"), "divide 3;",
            Scenes.made("2 0 0 60") + Scenes.carried("2 0 3") + Scenes.YES,
            Scenes.made("2 2 0 60") + Scenes.carried("2 2 0 61") + Scenes.YES,
            Scenes.made("2 0 0 60") + Scenes.carried("2 0 3") + Scenes.AGAINST,
            Scenes.carried("7") + Scenes.carried("10"), "image;" + Scenes.carried("2 1 0") + "undo;"};
        String[] seconds = {"", Scenes.carried("2 0 1 70"), Scenes.carried("2 1 0"),
            Scenes.carried("2 2 0 71"), "divide 1;", Scenes.lost("2 2 0 71")};
        for (String first : firsts) {
            for (String second : seconds) {
                Scenes.due(five + first + second + Scenes.YES, "replayed 0", 1);
            }
        }
        String parts = Q + Scenes.carried("2 0 3 40") + "divide 2;" + Scenes.carried("2 1 0")
            + Scenes.YES + Scenes.carried("2 0 2 41") + "divide 1;" + Scenes.YES + Scenes.YES;
        Scenes.dueOf(parts, "replayed #", 1, 1, 1, -1);
        String again = parts + Scenes.carried("11") + Scenes.carried("2 2 0 60") + Scenes.YES;
        Scenes.dueOf(again, "replayed #", 1, 1, 1, -1);
    }

    /** "-5 if there were more than 120 entries in all". */
    private static void replayedUpToAHundredAndTwentyEntries() {
        Scenes.due(ALMOST, "replayed 0", 1);
        Scenes.due(ALMOST + "speak 0;", "replayed 0", 1);
        Scenes.due(ALMOST + "speak 0; speak 0;", "replayed 0", Scenes.NOTHING);
        Scenes.due(ALMOST + "speak 0; image; speak 0; undo;", "replayed 0", 1);
    }

    /** "The result -5 is returned only if no error applies." */
    private static void noSuchResolutionIsAheadOfTooManyEntries() {
        String many = ALMOST + "speak 0; speak 0;";
        for (String resolution : new String[] {"1", "-1", "MIN", "MAX", "20", "99"}) {
            Scenes.due(many, "replayed " + resolution, Scenes.NONE);
            Scenes.due(Q + Scenes.YES, "replayed " + resolution, Scenes.NONE);
        }
        Scenes.due("", "replayed 0", Scenes.NONE);
        Scenes.due(Q + Scenes.AGAINST, "replayed 0", Scenes.NONE);
    }

    /** Promise 23: "NONE if what is invalid". */
    private static void countsThatAreNone() {
        for (String what : new String[] {"-1", "19", "MIN", "MAX", "256"}) {
            Scenes.due(Q, "count " + what, Scenes.NONE);
            Scenes.due("", "count " + what, Scenes.NONE);
        }
        Scenes.due("", "count 18", 0);
        Scenes.due("", "count 0", 0);
    }

    /** "13 the motions that were made; 14 those adopted; 15 those rejected; 16 .. all together". */
    private static void countsOfMotions() {
        String motions = Q + Scenes.made("1") + Scenes.made("2 0 0 50") + Scenes.carried("2 2 0 51")
            + Scenes.lost("3");
        Scenes.due(motions, "count 13", 5);
        Scenes.due(motions, "count 14", 1);
        Scenes.due(motions, "count 15", 1);
        Scenes.due(motions, "count 16", 3);
        String parts = Q + "divide 1;" + Scenes.YES;
        Scenes.due(parts, "count 13", 1);
        Scenes.due(parts, "count 16", 1);
        Scenes.due(Q + "divide 1;", "count 16", 1);
        Scenes.due(Q + Scenes.YES + Scenes.carried("11"), "count 13", 2);
        Scenes.due(Q + Scenes.YES + Scenes.made("11"), "count 16", 1);
        Scenes.due("", "count 16", 0);
    }

    private static void countsOfPlaces() {
        String places = Q + Scenes.made("1") + Scenes.carried("3") + Scenes.main(1)
            + Scenes.made("2 0 0 5") + Scenes.made("2 2 0 6") + Scenes.carried("7") + Scenes.main(2)
            + Scenes.made("3 1") + Scenes.carried("4 5") + Scenes.made("8 5") + Scenes.carried("9")
            + "open;" + Scenes.main(3) + Scenes.made("7");
        Scenes.due(places, "count 16", 2 + 3 + 2 + 1 + 2);
        Scenes.due(places, "count 8", 1);
        Scenes.due(places, "count 9", 2);
        Scenes.due(places, "count 10", 1);
        Scenes.due(places, "count 6", 4);
        Scenes.due(places + "decide 0 0; decide 0 0; report 0;", "count 10", 0);
        Scenes.due(places + "decide 0 0; decide 0 0; report 0;", "count 16", 2 + 3 + 2 + 1);
    }

    /** "18 main motions that came up as a next part or by a reconsideration". */
    private static void countsOfMainMotionsNotMade() {
        Scenes.due(Q, "count 18", 0);
        Scenes.due(Q + "divide 1;", "count 18", 0);
        Scenes.due(Q + "divide 1;" + Scenes.YES, "count 18", 1);
        Scenes.due(Q + "divide 1;" + Scenes.YES + Scenes.YES, "count 18", 1);
        Scenes.due(Q + "divide 1;" + Scenes.YES + Scenes.YES + Scenes.carried("11"), "count 18", 2);
        Scenes.due(Q + Scenes.carried("7") + Scenes.carried("10"), "count 18", 0);
        Scenes.due(Q + Scenes.carried("9") + "open; next;", "count 18", 0);
        Scenes.due(Q + Scenes.carried("1"), "count 17", 1);
        Scenes.due(Q + Scenes.AGAINST, "count 17", 0);
    }
}
