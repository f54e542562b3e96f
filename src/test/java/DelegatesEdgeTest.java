/** Delegates and the quorum, promises 1 to 4: a test for each sentence that names an edge. */
public final class DelegatesEdgeTest {
    private static final String TWELVE = Scenes.times(12, "delegate 1;");
    private static final String[] FAR = {"MIN", "MAX", "-1", "-32", "32", "64", "256", "65536"};

    private DelegatesEdgeTest() { }

    public static void main(String[] args) {
        aNewMeetingHasNoDelegates();
        atMostTwelveNumberedFromNought();
        noSuchDelegate();
        weightsFromOneToNine();
        aBadWeightIsAheadOfFull();
        atFirstPresent();
        presentOneAbsentNought();
        theDelegateIsAheadOfOn();
        percentagesFromNoughtToAHundred();
        initiallyFifty();
        aQuorumIfThereAreDelegates();
        atLeastThePercentage();
        thePercentageIsOfAllTheWeight();
        Checks.finish();
    }

    /** "Opens a meeting without delegates." */
    private static void aNewMeetingHasNoDelegates() {
        Scenes.dueOf("", "count #", 0, 1, 0, 0, 0, 0, 0, 0, 0, 0, 0, -5, 0, 0, 0, 0, 0, 0, 0, -1);
        Scenes.due("", "presence 0 1", Scenes.NONE);
        Scenes.due("", "move 0 9 0 0 0", Scenes.NONE);
        Scenes.due("", "speak 0", Scenes.NONE);
        Scenes.due("", "decide 1 0", Scenes.BAD);
        Scenes.due("", "decide 0 0", Scenes.STATE);
    }

    /** "There are at most 12 delegates, numbered from 0". */
    private static void atMostTwelveNumberedFromNought() {
        for (int i = 0; i < 12; i++) {
            Scenes.due(Scenes.times(i, "delegate 1;"), "delegate 1", i);
        }
        Scenes.due(TWELVE, "delegate 1", Scenes.FULL);
        Scenes.due(TWELVE, "delegate 9", Scenes.FULL);
        Scenes.due(TWELVE, "count 2", 12);
    }

    /** "NONE if there is no such delegate": just beyond the last one, and where a shift wraps. */
    private static void noSuchDelegate() {
        Scenes.due(TWELVE, "presence 11 0", 1);
        Scenes.due(TWELVE, "presence 12 0", Scenes.NONE);
        String spoken = TWELVE + Scenes.main(10);
        Scenes.due(spoken, "speak 11", 1);
        Scenes.due(spoken, "speak 12", Scenes.NONE);
        Scenes.due(spoken, "move 11 9 0 0 0", 2);
        Scenes.due(spoken, "move 12 9 0 0 0", Scenes.NONE);
        Scenes.due(spoken, "rule 11 9 0 0 0", 0);
        Scenes.due(spoken, "rule 12 9 0 0 0", Scenes.NONE);
        String one = Scenes.ONE + Scenes.main(10);
        for (String far : FAR) {
            Scenes.due(one, "presence " + far + " 0", Scenes.NONE);
            Scenes.due(one, "speak " + far, Scenes.NONE);
            Scenes.due(one, "move " + far + " 9 0 0 0", Scenes.NONE);
            Scenes.due(one, "rule " + far + " 9 0 0 0", Scenes.NONE);
        }
        Scenes.due(one, "presence 1 0", Scenes.NONE);
        Scenes.due(one, "speak 1", Scenes.NONE);
    }

    /** "weight: the weight, 1 to 9"; "BAD if weight is out of range". */
    private static void weightsFromOneToNine() {
        for (int weight = 1; weight <= 9; weight++) {
            Scenes.due("delegate " + weight, "count 4", weight);
        }
        for (String weight : new String[] {"0", "10", "-1", "MIN", "MAX", "257"}) {
            Scenes.due("", "delegate " + weight, Scenes.BAD);
            Scenes.due(Scenes.ONE, "delegate " + weight, Scenes.BAD);
        }
        Scenes.due(Scenes.times(12, "delegate 9;"), "count 4", 108);
    }

    /** "BAD if weight is out of range; FULL if there are 12 delegates", in this order. */
    private static void aBadWeightIsAheadOfFull() {
        Scenes.due(TWELVE, "delegate 0", Scenes.BAD);
        Scenes.due(TWELVE, "delegate 10", Scenes.BAD);
    }

    /** "is present or absent, at first present". */
    private static void atFirstPresent() {
        Scenes.due("delegate 4", "presence 0 1", 1);
        Scenes.due("delegate 4", "count 3", 4);
        Scenes.due("delegate 4; presence 0 0; delegate 5", "count 3", 5);
        Scenes.due("delegate 4; presence 0 0; delegate 5", "presence 1 0", 1);
        Scenes.due("delegate 4; presence 0 0; delegate 5", "presence 0 0", 0);
    }

    /** "on: 1 for present, 0 for absent"; "Returns 1 if the delegate was present before". */
    private static void presentOneAbsentNought() {
        String two = "delegate 4; delegate 5;";
        Scenes.due(two, "presence 1 0", 1);
        Scenes.due(two, "presence 1 1", 1);
        Scenes.due(two + "presence 1 0;", "presence 1 0", 0);
        Scenes.due(two + "presence 1 0;", "presence 1 1", 0);
        Scenes.due(two + "presence 1 0;", "count 3", 4);
        Scenes.due(two + "presence 1 0;", "count 4", 9);
        Scenes.due(two + "presence 0 0;", "count 3", 5);
        Scenes.due(two + "presence 1 0; presence 1 0;", "count 3", 4);
        Scenes.due(two + "presence 1 1; presence 1 1;", "count 3", 9);
        Scenes.due(two + "presence 1 0; presence 1 1;", "count 3", 9);
        for (String on : new String[] {"2", "-1", "MIN", "MAX", "3"}) {
            Scenes.due(two, "presence 1 " + on, Scenes.BAD);
            Scenes.due(two + "presence 1 0;", "presence 1 " + on, Scenes.BAD);
        }
    }

    /** "NONE if there is no such delegate; BAD if on is neither 0 nor 1", in this order. */
    private static void theDelegateIsAheadOfOn() {
        Scenes.due(Scenes.ONE, "presence 1 2", Scenes.NONE);
        Scenes.due(Scenes.ONE, "presence -1 -1", Scenes.NONE);
    }

    /** "percentage: the percentage, 0 to 100"; "BAD if percentage is out of range". */
    private static void percentagesFromNoughtToAHundred() {
        for (String percentage : new String[] {"-1", "101", "MIN", "MAX", "-50"}) {
            Scenes.due(Scenes.ONE, "quorum " + percentage, Scenes.BAD);
            Scenes.due("quorum 100", "quorum " + percentage, Scenes.BAD);
        }
        Scenes.due("quorum 0", "quorum 100", 0);
        Scenes.due("quorum 100", "quorum 0", 100);
        Scenes.due("quorum 1", "quorum 1", 1);
    }

    /** "The quorum is a percentage, initially 50". */
    private static void initiallyFifty() {
        Scenes.due("", "quorum 50", 50);
        Scenes.due("delegate 5; delegate 5; presence 0 0", "count 5", 1);
        Scenes.due("delegate 5; delegate 6; presence 1 0", "count 5", 0);
    }

    /** "there is a quorum if there are delegates". */
    private static void aQuorumIfThereAreDelegates() {
        Scenes.due("quorum 0", "count 5", 0);
        Scenes.due("", "count 5", 0);
        Scenes.due("quorum 0; delegate 1; presence 0 0", "count 5", 1);
        Scenes.due("quorum 1; delegate 1; presence 0 0", "count 5", 0);
    }

    /** "the weight of the present ones times 100 is at least the weight of all times" it. */
    private static void atLeastThePercentage() {
        String threeOfFour = "delegate 3; delegate 1; presence 1 0;";
        Scenes.due(threeOfFour + "quorum 75", "count 5", 1);
        Scenes.due(threeOfFour + "quorum 76", "count 5", 0);
        String twoOfThree = "delegate 2; delegate 1; presence 1 0;";
        Scenes.due(twoOfThree + "quorum 66", "count 5", 1);
        Scenes.due(twoOfThree + "quorum 67", "count 5", 0);
        String allButOne = Scenes.times(11, "delegate 9;") + "delegate 1; presence 11 0;";
        Scenes.due(allButOne + "quorum 99", "count 5", 1);
        Scenes.due(allButOne + "quorum 100", "count 5", 0);
        Scenes.due(allButOne + "quorum 100; presence 11 1", "count 5", 1);
    }

    /** "the weight of all": absent ones and those that came late are counted. */
    private static void thePercentageIsOfAllTheWeight() {
        Scenes.due("delegate 1; delegate 9; presence 1 0", "count 5", 0);
        Scenes.due("delegate 1; delegate 1; presence 1 0", "count 5", 1);
        Scenes.due("delegate 1; delegate 1; presence 1 0; delegate 1; presence 2 0", "count 5", 0);
        Scenes.due("delegate 1; delegate 1; presence 1 0; delegate 1", "count 5", 1);
    }
}
