/** Rows, promises 24 to 27: a test for each sentence that names an edge. */
public final class RowsEdgeTest {
    private static final String TWO = "delegate 3; delegate 4;";
    private static final String[] NO_ROW = {"-1", "4", "MIN", "MAX", "32", "256"};
    /** Decisions of 3 to 4, none, 7 to 0 and 0 to 4. */
    private static final String FOUR = TWO + voted(1, 2) + voted(0, 0) + voted(3, 0) + voted(0, 2);
    /** The row 0 has ints, the row 1 other ints, the row 2 floats, and the row 3 is missing. */
    private static final String THREE_ROWS = FOUR + "store 0 0 1; store 1 1 1; store 2 0 0;";

    private RowsEdgeTest() { }

    public static void main(String[] args) {
        fourRowsMissingAtFirst();
        noSuchRowToStore();
        noSuchWhatToStore();
        exactIsNeitherNoughtNorOne();
        nothingWasDecided();
        errorsOfStoreInOrder();
        rowsOfInts();
        rowsOfFloats();
        oneToFortyElements();
        storesInPlaceOfTheEarlierRow();
        noSuchRowToCopy();
        aMissingRowToCopy();
        numbersOfElementsToCopy();
        numbersAboveOneOfThem();
        intsAndFloats();
        errorsOfCopyInOrder();
        elementsThatHaveAnotherValueThen();
        copiesOntoItself();
        noSuchRowToMakeAgain();
        aMissingRowToMakeAgain();
        aRowOfItsOwn();
        noSuchElement();
        Checks.finish();
    }

    private static String voted(int yes, int no) {
        return Scenes.made("8 1") + "decide " + yes + " " + no + ";";
    }

    private static void rowDue(String scene, int row, long... elements) {
        for (int i = 0; i < elements.length; i++) {
            Scenes.due(scene, "element " + row + " " + i, elements[i]);
        }
        Scenes.due(scene, "element " + row + " " + elements.length, Scenes.NO);
    }

    private static long bits(float share) {
        return Float.floatToIntBits(share);
    }

    /** "There are 4 rows, numbered from 0, which are missing at first." */
    private static void fourRowsMissingAtFirst() {
        for (int row = 0; row < 4; row++) {
            Scenes.due(FOUR, "element " + row + " 0", Scenes.NO);
            Scenes.due(FOUR, "copy " + row + " " + row + " 0", Scenes.STATE);
            Scenes.due(FOUR, "again " + row + " " + row, Scenes.STATE);
            Scenes.due(FOUR, "store " + row + " 0 1", 4);
        }
    }

    /** "NONE if there is no such row or what is invalid". */
    private static void noSuchRowToStore() {
        for (String row : NO_ROW) {
            Scenes.due(FOUR, "store " + row + " 0 1", Scenes.NONE);
        }
    }

    private static void noSuchWhatToStore() {
        for (String what : new String[] {"-1", "2", "MIN", "MAX", "256"}) {
            Scenes.due(FOUR, "store 0 " + what + " 1", Scenes.NONE);
            Scenes.due(FOUR + "store 0 0 1;", "store 0 " + what + " 0", Scenes.NONE);
        }
        Scenes.due(FOUR, "store 0 0 1", 4);
        Scenes.due(FOUR, "store 0 1 1", 4);
    }

    /** "BAD if exact is neither 0 nor 1". */
    private static void exactIsNeitherNoughtNorOne() {
        for (String exact : new String[] {"-1", "2", "MIN", "MAX", "256"}) {
            Scenes.due(FOUR, "store 0 0 " + exact, Scenes.BAD);
            Scenes.due(FOUR + "store 0 0 1;", "store 0 1 " + exact, Scenes.BAD);
        }
        Scenes.due(FOUR, "store 3 1 0", 4);
    }

    /** "STATE if nothing was decided". */
    private static void nothingWasDecided() {
        Scenes.due(TWO, "store 0 0 1", Scenes.STATE);
        Scenes.due("", "store 3 1 0", Scenes.STATE);
        Scenes.due(TWO + Scenes.made("8 1"), "store 0 0 1", Scenes.STATE);
        Scenes.due(TWO + voted(1, 0), "store 0 0 1", 1);
        Scenes.due(TWO + "image;" + voted(1, 0) + "undo;", "store 0 0 1", Scenes.STATE);
    }

    /** "NONE ..; BAD ..; STATE ..", in this order. */
    private static void errorsOfStoreInOrder() {
        Scenes.due(TWO, "store 4 0 2", Scenes.NONE);
        Scenes.due(TWO, "store 0 2 2", Scenes.NONE);
        Scenes.due(TWO, "store 4 2 0", Scenes.NONE);
        Scenes.due(TWO, "store 0 0 2", Scenes.BAD);
        Scenes.due(FOUR, "store -1 0 -1", Scenes.NONE);
    }

    /** "1 for a row of ints": "0 for the yes votes, 1 for the no votes". */
    private static void rowsOfInts() {
        rowDue(FOUR + "store 0 0 1;", 0, 3, 0, 7, 0);
        rowDue(FOUR + "store 3 1 1;", 3, 4, 0, 0, 4);
    }

    /** "divided by the weight of all votes of the decision, 0 without votes". */
    private static void rowsOfFloats() {
        rowDue(FOUR + "store 0 0 0;", 0, bits(3f / 7f), 0, bits(1f), 0);
        rowDue(FOUR + "store 3 1 0;", 3, bits(4f / 7f), 0, 0, bits(1f));
        String absent = TWO + "delegate 1; presence 1 0;" + voted(1, 6) + "store 0 0 0; store 1 1 0;";
        rowDue(absent, 0, bits(3f / 4f));
        rowDue(absent, 1, bits(1f / 4f));
    }

    /** "A row holds 1 to 40"; "at most the first 40". */
    private static void oneToFortyElements() {
        String forty = TWO + Scenes.times(39, voted(1, 0)) + voted(2, 0);
        Scenes.due(TWO + voted(1, 0), "store 0 0 1", 1);
        Scenes.due(TWO + Scenes.times(39, voted(1, 0)), "store 0 0 1", 39);
        Scenes.due(forty, "store 0 0 1", 40);
        Scenes.due(forty + voted(3, 0), "store 0 0 1", 40);
        for (String scene : new String[] {forty, forty + voted(3, 0), forty + voted(3, 0) + voted(0, 3)}) {
            Scenes.due(scene + "store 0 0 1;", "element 0 0", 3);
            Scenes.due(scene + "store 0 0 1;", "element 0 38", 3);
            Scenes.due(scene + "store 0 0 1;", "element 0 39", 4);
            Scenes.due(scene + "store 0 0 1;", "element 0 40", Scenes.NO);
            Scenes.due(scene + "store 0 0 0;", "element 0 39", bits(1f));
        }
        Scenes.due(forty + voted(3, 0) + "store 0 0 1; store 1 1 1;", "copy 0 1 40", 40);
        Scenes.due(forty + voted(3, 0) + "store 0 0 1; store 1 1 1;", "copy 0 1 41", Scenes.BAD);
        Scenes.due(forty + voted(3, 0) + "store 0 0 1;", "again 0 1", 40);
        Scenes.due(forty + voted(3, 0), "vote 0", 7);
    }

    private static void storesInPlaceOfTheEarlierRow() {
        String twice = FOUR + "store 0 0 1;" + voted(2, 0) + "store 0 1 0;";
        rowDue(twice, 0, bits(4f / 7f), 0, 0, bits(1f), 0);
        String shorter = TWO + voted(1, 0) + "image;" + voted(2, 0) + "store 0 0 1; undo; store 0 0 1;";
        rowDue(shorter, 0, 3);
    }

    /** Promise 25: "NONE if there is no such row", either of them. */
    private static void noSuchRowToCopy() {
        for (String row : NO_ROW) {
            Scenes.due(THREE_ROWS, "copy " + row + " 0 1", Scenes.NONE);
            Scenes.due(THREE_ROWS, "copy 0 " + row + " 1", Scenes.NONE);
            Scenes.due(THREE_ROWS, "copy " + row + " " + row + " 0", Scenes.NONE);
        }
    }

    /** "STATE if one of them is missing". */
    private static void aMissingRowToCopy() {
        Scenes.due(THREE_ROWS, "copy 3 0 1", Scenes.STATE);
        Scenes.due(THREE_ROWS, "copy 0 3 1", Scenes.STATE);
        Scenes.due(THREE_ROWS, "copy 0 3 0", Scenes.STATE);
        Scenes.due(THREE_ROWS, "copy 3 3 0", Scenes.STATE);
        Scenes.due(THREE_ROWS + "again 0 3;", "copy 0 3 4", 0);
    }

    /** "n: the number of elements, 0 or greater"; "BAD if n is negative". */
    private static void numbersOfElementsToCopy() {
        Scenes.due(THREE_ROWS, "copy 0 1 0", 0);
        Scenes.due(THREE_ROWS, "copy 0 1 1", 1);
        Scenes.due(THREE_ROWS, "copy 0 1 4", 3);
        for (String n : new String[] {"-1", "5", "MIN", "MAX", "40", "41"}) {
            Scenes.due(THREE_ROWS, "copy 0 1 " + n, Scenes.BAD);
        }
    }

    /** "or above the length of one of them". */
    private static void numbersAboveOneOfThem() {
        String uneven = TWO + voted(1, 2) + "store 0 0 1;" + voted(3, 0) + "store 1 1 1;";
        Scenes.due(uneven, "copy 0 1 1", 1);
        Scenes.due(uneven, "copy 1 0 1", 1);
        Scenes.due(uneven, "copy 0 1 2", Scenes.BAD);
        Scenes.due(uneven, "copy 1 0 2", Scenes.BAD);
        rowDue(uneven + "copy 0 1 1;", 1, 3, 0);
        rowDue(uneven + "copy 1 0 1;", 0, 4);
    }

    /** "FULL if n is greater than 0 and one is of ints and the other of floats". */
    private static void intsAndFloats() {
        Scenes.due(THREE_ROWS, "copy 0 2 1", Scenes.FULL);
        Scenes.due(THREE_ROWS, "copy 2 0 1", Scenes.FULL);
        Scenes.due(THREE_ROWS, "copy 2 0 4", Scenes.FULL);
        Scenes.due(THREE_ROWS, "copy 0 2 0", 0);
        Scenes.due(THREE_ROWS, "copy 2 0 0", 0);
        rowDue(THREE_ROWS + "copy 2 0 0;", 0, 3, 0, 7, 0);
        Scenes.due(THREE_ROWS + "store 3 1 0;", "copy 2 3 4", 3);
        Scenes.due(THREE_ROWS + "copy 2 0 0;", "copy 0 1 1", 1);
    }

    /** "NONE ..; STATE ..; BAD ..; FULL ..", in this order. */
    private static void errorsOfCopyInOrder() {
        Scenes.due(THREE_ROWS, "copy 4 3 -1", Scenes.NONE);
        Scenes.due(THREE_ROWS, "copy 3 -1 9", Scenes.NONE);
        Scenes.due(THREE_ROWS, "copy 3 0 -1", Scenes.STATE);
        Scenes.due(THREE_ROWS, "copy 0 3 MAX", Scenes.STATE);
        Scenes.due(THREE_ROWS, "copy 0 2 -1", Scenes.BAD);
        Scenes.due(THREE_ROWS, "copy 0 2 5", Scenes.BAD);
        Scenes.due(THREE_ROWS, "copy 2 0 MAX", Scenes.BAD);
        Scenes.due("", "copy 0 4 0", Scenes.NONE);
        Scenes.due("", "copy 0 1 -1", Scenes.STATE);
    }

    /** "Returns the number of elements of the other row that have another value then". */
    private static void elementsThatHaveAnotherValueThen() {
        Scenes.due(THREE_ROWS, "copy 0 1 2", 1);
        Scenes.due(THREE_ROWS + "copy 0 1 4;", "copy 0 1 4", 0);
        Scenes.due(THREE_ROWS + "copy 0 1 2;", "copy 0 1 4", 2);
        rowDue(THREE_ROWS + "copy 0 1 3;", 1, 3, 0, 7, 4);
        rowDue(THREE_ROWS + "copy 0 1 3;", 0, 3, 0, 7, 0);
        rowDue(THREE_ROWS + "copy 1 0 4;", 0, 4, 0, 0, 4);
        String floats = FOUR + "store 0 0 0; store 1 1 0; copy 1 0 3;";
        rowDue(floats, 0, bits(4f / 7f), 0, 0, 0);
        Scenes.due(FOUR + "store 0 0 0; store 1 1 0;", "copy 1 0 4", 3);
    }

    /** "or of the same one". */
    private static void copiesOntoItself() {
        Scenes.due(THREE_ROWS, "copy 0 0 4", 0);
        Scenes.due(THREE_ROWS, "copy 0 0 0", 0);
        Scenes.due(THREE_ROWS, "copy 0 0 5", Scenes.BAD);
        Scenes.due(THREE_ROWS, "copy 2 2 4", 0);
        rowDue(THREE_ROWS + "copy 0 0 4;", 0, 3, 0, 7, 0);
    }

    /** Promise 26: "NONE if there is no such row", ahead of STATE. */
    private static void noSuchRowToMakeAgain() {
        for (String row : NO_ROW) {
            Scenes.due(THREE_ROWS, "again " + row + " 0", Scenes.NONE);
            Scenes.due(THREE_ROWS, "again 0 " + row, Scenes.NONE);
            Scenes.due(THREE_ROWS, "again 3 " + row, Scenes.NONE);
        }
    }

    /** "STATE if from is missing": the other one may be. */
    private static void aMissingRowToMakeAgain() {
        Scenes.due(THREE_ROWS, "again 3 0", Scenes.STATE);
        Scenes.due(THREE_ROWS, "again 3 3", Scenes.STATE);
        Scenes.due(THREE_ROWS, "again 0 3", 4);
        rowDue(THREE_ROWS + "again 2 3;", 3, bits(3f / 7f), 0, bits(1f), 0);
    }

    /** "Makes a row the same as another one, as a row of its own." */
    private static void aRowOfItsOwn() {
        String alike = THREE_ROWS + "again 0 3; copy 1 0 4;";
        rowDue(alike, 3, 3, 0, 7, 0);
        rowDue(alike, 0, 4, 0, 0, 4);
        rowDue(THREE_ROWS + "again 0 3; copy 1 3 4;", 0, 3, 0, 7, 0);
        Scenes.due(THREE_ROWS + "again 2 0;", "copy 2 0 4", 0);
        Scenes.due(THREE_ROWS + "again 2 0;", "copy 0 1 1", Scenes.FULL);
        Scenes.due(THREE_ROWS, "again 0 0", 4);
        rowDue(THREE_ROWS + "again 0 0;", 0, 3, 0, 7, 0);
        String shorter = TWO + voted(1, 2) + "store 0 0 1;" + voted(3, 0) + "store 1 1 1; again 0 1;";
        rowDue(shorter, 1, 3);
    }

    /** Promise 27: "NO if there is no such row, it is missing, or there is no such index". */
    private static void noSuchElement() {
        for (String row : NO_ROW) {
            Scenes.due(THREE_ROWS, "element " + row + " 0", Scenes.NO);
        }
        for (String i : new String[] {"-1", "4", "39", "40", "MIN", "MAX"}) {
            Scenes.due(THREE_ROWS, "element 0 " + i, Scenes.NO);
            Scenes.due(THREE_ROWS, "element 2 " + i, Scenes.NO);
            Scenes.due(THREE_ROWS, "element 3 " + i, Scenes.NO);
        }
        Scenes.due(THREE_ROWS, "element 0 3", 0);
        Scenes.due(THREE_ROWS, "element 2 2", 0x3f800000L);
    }
}
