/** Compares answers with those that are due, and ends a test with its exit code. */
final class Checks {
    private static int looked;
    private static int wrong;

    private Checks() { }

    static void due(String what, long got, long want) {
        looked++;
        if (got != want) {
            wrong++;
            System.out.println(what + " answered " + got + ", due is " + want);
        }
    }

    static void due(String what, int[] got, int... want) {
        due(what + ", its length", got.length, want.length);
        for (int i = 0; i < Math.min(got.length, want.length); i++) {
            due(what + ", at " + i, got[i], want[i]);
        }
    }

    static void finish() {
        System.out.println(looked + " answers looked at, " + wrong + " wrong");
        if (wrong != 0 || looked == 0) {
            System.exit(1);
        }
    }
}
