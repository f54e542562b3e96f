import java.util.List;

/**
 * All promises at once: random runs of calls, compared with the model; and two properties that
 * hold for every call: one that answers an error leaves the state unchanged, and none throws,
 * also far behind the 512th call.
 */
public final class RandomRunsTest {
    private static final int RUNS = 4000, CALLS = 512;
    private static final int CHANGES = 18, ALL_CALLS = 29;
    private static final int[] EDGES = {Integer.MIN_VALUE, Integer.MAX_VALUE, -101, -5, -2, -1, 4, 8,
        12, 20, 21, 40, 99, 100, 101, 119, 120, 500, 501, 9999, 10000, 1 << 12, 1 << 30};

    private final AssemblyChair chair = new AssemblyChair();
    private final Model model = new Model();
    private long seed;
    private int deepest;
    /** Whether there are so many speeches that not all entries are kept. */
    private final boolean isTalkative;

    private RandomRunsTest(long seed) {
        this.seed = seed;
        isTalkative = draw(4) == 0;
    }

    public static void main(String[] args) {
        int deepest = 0;
        int resolutions = 0;
        int lost = 0;
        int late = 0;
        for (int run = 0; run < RUNS; run++) {
            RandomRunsTest test = new RandomRunsTest(run * 7919L + 1);
            test.compare(run);
            deepest = Math.max(deepest, test.deepest);
            resolutions = Math.max(resolutions, test.chair.count(7));
            lost += test.chair.entry(-1, 0) > 120 ? 1 : 0;
            late += test.chair.count(0) == 9999 ? 1 : 0;
        }
        Checks.due("the runs go deep", deepest >= 7 ? 1 : 0, 1);
        Checks.due("some have resolutions", resolutions >= 5 ? 1 : 0, 1);
        Checks.due("some lose entries", lost > 0 && lost < RUNS ? 1 : 0, 1);
        Checks.due("some reach the last minute", late > 0 && late < RUNS ? 1 : 0, 1);
        for (int run = 0; run < 60; run++) {
            new RandomRunsTest(run * 104729L + 5).errorsChangeNothing();
        }
        for (int run = 0; run < 20; run++) {
            new RandomRunsTest(run * 1299709L + 3).nothingThrows();
        }
        Checks.finish();
    }

    /** A number from 0 to bound - 1, from a plain generator, so that every run is the same. */
    private int draw(int bound) {
        seed = seed * 6364136223846793005L + 1442695040888963407L;
        return (int) ((seed >>> 33) % bound);
    }

    /** Mostly a number from 0 to most, seldom one from anywhere. */
    private int number(int most) {
        return draw(40) == 0 ? EDGES[draw(EDGES.length)] : draw(most + 1);
    }

    private int[] arguments(int call) {
        switch (call) {
            case 0: return new int[] {1 + number(8)};
            case 1: return new int[] {number(Math.max(0, chair.count(2) - 1)), draw(4) == 0 ? 0 : 1};
            case 2: return new int[] {number(60)};
            case 3: return new int[] {number(12)};
            case 4: case 18: return motion();
            case 5: return votes();
            case 6: return new int[] {number(Math.max(0, chair.count(2) - 1))};
            case 7: return new int[] {number(4)};
            case 8: return new int[] {number(3)};
            case 10: return new int[] {1 + number(30)};
            case 12: return new int[] {number(3), number(1), number(1)};
            case 13: return new int[] {number(3), number(3), number(6)};
            case 14: return new int[] {number(3), number(3)};
            case 19: return new int[] {number(9) - 1, number(6)};
            case 20: case 21: return new int[] {number(12), number(7) - 1};
            case 22: return new int[] {number(9) - 1};
            case 23: return new int[] {number(5), number(5) - 2};
            case 24: return new int[] {number(5)};
            case 25: return new int[] {number(125) - 1, number(4)};
            case 26: return new int[] {number(6)};
            case 27: return new int[] {number(19)};
            case 28: return new int[] {number(3), number(40)};
            default: return new int[0];
        }
    }

    private int[] motion() {
        int mover = number(Math.max(0, chair.count(2) - 1));
        int kind = kindToMove();
        int top = chair.pending(-1, 0) - 1;
        boolean isSecondary = chair.pending(top, 5) == 1;
        int a = 0;
        int b = 0;
        int c = 0;
        if (kind == 2 || draw(60) == 0) {
            a = number(2);
            b = isSecondary && a == 2 ? number(9) / 9 : number(4);
            c = isSecondary && a == 0 || a == 1 ? number(9) / 9 : number(12);
        } else if (kind == 3) {
            a = number(3);
        } else if (kind == 4) {
            a = chair.count(0) + number(draw(3) == 0 ? 2 : 30);
        } else if (kind == 5) {
            a = number(4);
        } else if (kind == 8) {
            a = number(draw(4) == 0 ? 500 : 30);
        }
        return new int[] {mover, kind, a, b, c};
    }

    /** A kind that is mostly possible now, and seldom one that ends what goes on. */
    private int kindToMove() {
        if (draw(8) == 0) {
            return number(11);
        }
        int top = chair.pending(-1, 0) - 1;
        if (top < 0) {
            int[] kinds = {0, 0, 0, 0, 10, 10, 11, 11, 8, 9};
            return kinds[draw(draw(3) == 0 ? kinds.length : 8)];
        }
        int topKind = chair.pending(top, 0);
        if (topKind == 2 && draw(2) == 0) {
            return 2;
        }
        int kind = topKind + 1 + draw(3);
        if (topKind == 0) {
            int[] kinds = {1, 2, 2, 2, 3, 4, 5, 6, 7, 7, 8};
            kind = kinds[draw(kinds.length)];
        }
        return kind >= 8 && draw(3) > 0 ? 7 : kind;
    }

    private int[] votes() {
        int all = (1 << chair.count(2)) - 1;
        int yes = draw(4096) & all;
        int no = draw(4096) & all & ~yes;
        switch (draw(40)) {
            case 0: return new int[] {number(4096), number(4096)};
            case 1: return new int[] {0, 0};
            default: return draw(5) < 3 ? new int[] {yes | draw(4096) & all & ~no, no & draw(4096)}
                : new int[] {yes, no};
        }
    }

    /** A call that mostly fits what is pending, seldom any other. */
    private int pickCall() {
        if (draw(8) == 0) {
            int call = draw(ALL_CALLS);
            boolean isSeldom = call == 0 || call == 1 || call == 2 || call == 16;
            return isSeldom && draw(6) > 0 ? 11 : call;
        }
        if (chair.count(1) == 0) {
            return draw(3) > 0 ? 11 : 8 + draw(3);
        }
        if (chair.pending(-1, 0) == 0) {
            int[] calls = {3, 3, 3, 4, 4, 4, 8, 9, 10, 12};
            return calls[draw(calls.length)];
        }
        int[] calls = {4, 4, 4, 4, 4, 5, 5, 5, 7, 12, 13, 14, 15, 6, 6, 6, 6, 6, 6, 6, 6, 6, 6};
        return calls[draw(isTalkative ? calls.length : 15)];
    }

    private static long onChair(AssemblyChair x, int call, int[] n) {
        switch (call) {
            case 0: return x.delegate(n[0]);
            case 1: return x.presence(n[0], n[1]);
            case 2: return x.quorum(n[0]);
            case 3: return x.clause(n[0]);
            case 4: return x.move(n[0], n[1], n[2], n[3], n[4]);
            case 5: return x.decide(n[0], n[1]);
            case 6: return x.speak(n[0]);
            case 7: return x.divide(n[0]);
            case 8: return x.report(n[0]);
            case 9: return x.next();
            case 10: return x.pass(n[0]);
            case 11: return x.open();
            case 12: return x.store(n[0], n[1], n[2]);
            case 13: return x.copy(n[0], n[1], n[2]);
            case 14: return x.again(n[0], n[1]);
            case 15: return x.image();
            case 16: return x.undo();
            case 18: return x.rule(n[0], n[1], n[2], n[3], n[4]);
            case 19: return x.pending(n[0], n[1]);
            case 20: return x.text(n[0], n[1]);
            case 21: return x.question(n[0], n[1]);
            case 22: return x.draft(n[0]);
            case 23: return x.resolution(n[0], n[1]);
            case 24: return x.replayed(n[0]);
            case 25: return x.entry(n[0], n[1]);
            case 26: return x.vote(n[0]);
            case 27: return x.count(n[0]);
            case 28: return x.element(n[0], n[1]);
            default: return 0;
        }
    }

    private static long onModel(Model x, int call, int[] n) {
        switch (call) {
            case 0: return x.delegate(n[0]);
            case 1: return x.presence(n[0], n[1]);
            case 2: return x.quorum(n[0]);
            case 3: return x.clause(n[0]);
            case 4: return x.move(n[0], n[1], n[2], n[3], n[4]);
            case 5: return x.decide(n[0], n[1]);
            case 6: return x.speak(n[0]);
            case 7: return x.divide(n[0]);
            case 8: return x.report(n[0]);
            case 9: return x.next();
            case 10: return x.pass(n[0]);
            case 11: return x.open();
            case 12: return x.store(n[0], n[1], n[2]);
            case 13: return x.copy(n[0], n[1], n[2]);
            case 14: return x.again(n[0], n[1]);
            case 15: return x.image();
            case 16: return x.undo();
            case 18: return x.rule(n[0], n[1], n[2], n[3], n[4]);
            case 19: return x.pending(n[0], n[1]);
            case 20: return x.text(n[0], n[1]);
            case 21: return x.question(n[0], n[1]);
            case 22: return x.draft(n[0]);
            case 23: return x.resolution(n[0], n[1]);
            case 24: return x.replayed(n[0]);
            case 25: return x.entry(n[0], n[1]);
            case 26: return x.vote(n[0]);
            case 27: return x.count(n[0]);
            case 28: return x.element(n[0], n[1]);
            default: return 0;
        }
    }

    private static String name(int run, int step, int call, int[] arguments) {
        StringBuilder name = new StringBuilder("run " + run + ", step " + step + ", call " + call);
        for (int argument : arguments) {
            name.append(' ').append(argument);
        }
        return name.toString();
    }

    private void compare(int run) {
        int delegates = 1 + draw(draw(2) == 0 ? 5 : 12);
        if (draw(4) == 0) {
            beginLate();
        }
        for (int step = 0; step < CALLS; step++) {
            int call = step < delegates ? 0 : pickCall();
            int[] arguments = arguments(call);
            long got = onChair(chair, call, arguments);
            long due = onModel(model, call, arguments);
            if (got != due) {
                Checks.due(name(run, step, call, arguments), got, due);
                return;
            }
            deepest = Math.max(deepest, chair.pending(-1, 0));
            lookAround(run, step);
        }
        Checks.due("run " + run, 0, 0);
    }

    /** Begins so near the minute 9999 that it is reached. */
    private void beginLate() {
        for (int i = 0; i < 19; i++) {
            Checks.due("a late beginning", chair.pass(500), model.pass(500));
        }
        Checks.due("a late beginning", chair.pass(350), model.pass(350));
    }

    /** A few questions after every call, as what is wrong may soon be overwritten. */
    private void lookAround(int run, int step) {
        for (int i = 0; i < 12; i++) {
            int call = 18 + draw(ALL_CALLS - 18);
            int[] arguments = arguments(call);
            long got = onChair(chair, call, arguments);
            long due = onModel(model, call, arguments);
            if (got != due) {
                Checks.due(name(run, step, call, arguments) + " (asked)", got, due);
            }
        }
    }

    private void errorsChangeNothing() {
        List<Long> meeting = Halls.meetingOf(chair);
        List<Long> rows = Halls.rowsOf(chair);
        for (int step = 0; step < 300; step++) {
            int call = step < 3 ? 0 : pickCall();
            int[] arguments = arguments(call);
            long got = onChair(chair, call, arguments);
            List<Long> meetingThen = Halls.meetingOf(chair);
            List<Long> rowsThen = Halls.rowsOf(chair);
            boolean isQuestion = call >= CHANGES;
            if (got < 0 || isQuestion) {
                boolean isSame = meeting.equals(meetingThen) && rows.equals(rowsThen);
                Checks.due(name(0, step, call, arguments) + ", the state", isSame ? 1 : 0, 1);
            }
            meeting = meetingThen;
            rows = rowsThen;
        }
    }

    private void nothingThrows() {
        for (int step = 0; step < 20000; step++) {
            int call = step < 3 ? 0 : pickCall();
            onChair(chair, call, arguments(call));
        }
        Checks.due("it answers still", chair.count(2) >= 0 ? 1 : 0, 1);
    }
}
