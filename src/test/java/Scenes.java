import java.util.ArrayList;
import java.util.HashMap;
import java.util.List;
import java.util.Map;
import java.util.Set;

/**
 * Meetings told as calls, "delegate 1; clause 10; move 0 0 0 0 0;", and what one more call answers
 * there. A call that answers an error, and one that asks a question, is looked at further: the
 * meeting must go on as if it had not been.
 */
final class Scenes {
    static final int NONE = AssemblyChair.NONE, BAD = AssemblyChair.BAD;
    static final int STATE = AssemblyChair.STATE, FULL = AssemblyChair.FULL;
    static final int NOTHING = -5;
    static final long NO = AssemblyChair.NO;
    /** A delegate, the number 0. */
    static final String ONE = "delegate 1;";
    static final String YES = "decide 1 0;";
    static final String AGAINST = "decide 0 1;";

    private static final Set<String> QUESTIONS = Set.of("rule", "pending", "text", "question",
        "draft", "resolution", "replayed", "entry", "vote", "count", "element");
    private static final Map<String, List<Long>> FUTURES = new HashMap<>();

    private Scenes() { }

    // ---- parts of a scene

    static String times(int n, String calls) {
        return calls.repeat(n);
    }

    /** A main motion of these clauses, made by the delegate 0. */
    static String main(int... clauses) {
        StringBuilder calls = new StringBuilder();
        for (int clause : clauses) {
            calls.append("clause ").append(clause).append(';');
        }
        return calls.append("move 0 0 0 0 0;").toString();
    }

    /** A motion, told by its kind and the numbers that are not 0: "2 0 1 15". */
    static String motion(String kindAndNumbers) {
        String[] words = kindAndNumbers.trim().split("\\s+");
        StringBuilder motion = new StringBuilder("0");
        for (int i = 0; i < 4; i++) {
            motion.append(' ').append(i < words.length ? words[i] : "0");
        }
        return motion.toString();
    }

    static String made(String kindAndNumbers) {
        return "move " + motion(kindAndNumbers) + ";";
    }

    static String carried(String kindAndNumbers) {
        return made(kindAndNumbers) + YES;
    }

    static String lost(String kindAndNumbers) {
        return made(kindAndNumbers) + AGAINST;
    }

    /** A motion of the kind that is possible on the question 10, 20, 30 at the minute 0. */
    static String possible(int kind) {
        switch (kind) {
            case 2: return "2 0 0 50";
            case 4: return "4 5";
            case 5: return "5 2";
            case 8: return "8 5";
            default: return Integer.toString(kind);
        }
    }

    // ---- playing

    static AssemblyChair play(String scene) {
        AssemblyChair chair = new AssemblyChair();
        goOn(chair, scene);
        return chair;
    }

    /** Makes these calls, none of which may answer an error. */
    static void goOn(AssemblyChair chair, String scene) {
        for (String call : scene.split(";")) {
            if (!call.isBlank()) {
                long got = answer(chair, call);
                if (got < 0) {
                    Checks.due("in the scene " + scene + " the call " + call, got, 0);
                }
            }
        }
    }

    /** Looks at the answer of a call after a scene, and at what must not have come of it. */
    static void due(String scene, String call, long due) {
        AssemblyChair chair = play(scene);
        String what = "[" + scene + "] " + call;
        Checks.due(what, answer(chair, call), due);
        if (due < 0 || QUESTIONS.contains(call.trim().split("\\s+")[0])) {
            List<Long> before = FUTURES.computeIfAbsent(scene, same -> futureOf(play(same)));
            Checks.due(what + ": goes on as before", futureOf(chair).equals(before) ? 1 : 0, 1);
        }
    }

    /** Looks that a meeting, which is used up by it, goes on as one that played a scene. */
    static void sameDue(String what, AssemblyChair chair, String scene) {
        boolean isSame = futureOf(chair).equals(futureOf(play(scene)));
        Checks.due(what + ": goes on as [" + scene + "]", isSame ? 1 : 0, 1);
    }

    /** The answers of several questions after a scene. */
    static void dueOf(String scene, String call, long... dues) {
        for (int i = 0; i < dues.length; i++) {
            due(scene, call.replace("#", Integer.toString(i)), dues[i]);
        }
    }

    /** A motion, "mover kind a b c", that is refused by a rule, as rule and move answer. */
    static void refused(String scene, String motion, int rule) {
        due(scene, "rule " + motion, rule);
        due(scene, "move " + motion, -100 - rule);
    }

    /** The same of a motion that the delegate 0 makes, told by its kind and numbers. */
    static void refusedKind(String scene, String kindAndNumbers, int rule) {
        refused(scene, motion(kindAndNumbers), rule);
    }

    /** A motion that is not refused, and how many are pending then. */
    static void allowed(String scene, String motion, int height) {
        due(scene, "rule " + motion, 0);
        due(scene, "move " + motion, height);
    }

    static void allowedKind(String scene, String kindAndNumbers, int height) {
        allowed(scene, motion(kindAndNumbers), height);
    }

    static void textDue(String scene, int question, int... clauses) {
        Checks.due("[" + scene + "] text " + question, Halls.textOf(play(scene), question), clauses);
    }

    static void pendingDue(String scene, int... kinds) {
        Checks.due("[" + scene + "] pending", Halls.kindsPending(play(scene)), kinds);
    }

    /** The last entry of the minutes: its minute, its kind, its delegate and its number. */
    static void lastEntryDue(String scene, int... entry) {
        AssemblyChair chair = play(scene);
        Checks.due("[" + scene + "] last entry", Halls.entryOf(chair, chair.entry(-1, 0) - 1), entry);
    }

    static long answer(AssemblyChair x, String call) {
        String[] words = call.trim().split("\\s+");
        int[] n = new int[5];
        for (int i = 1; i < words.length; i++) {
            n[i - 1] = number(words[i]);
        }
        switch (words[0]) {
            case "delegate": return x.delegate(n[0]);
            case "presence": return x.presence(n[0], n[1]);
            case "quorum": return x.quorum(n[0]);
            case "clause": return x.clause(n[0]);
            case "move": return x.move(n[0], n[1], n[2], n[3], n[4]);
            case "decide": return x.decide(n[0], n[1]);
            case "speak": return x.speak(n[0]);
            case "divide": return x.divide(n[0]);
            case "report": return x.report(n[0]);
            case "next": return x.next();
            case "pass": return x.pass(n[0]);
            case "open": return x.open();
            case "rule": return x.rule(n[0], n[1], n[2], n[3], n[4]);
            case "pending": return x.pending(n[0], n[1]);
            case "text": return x.text(n[0], n[1]);
            case "question": return x.question(n[0], n[1]);
            case "draft": return x.draft(n[0]);
            case "resolution": return x.resolution(n[0], n[1]);
            case "replayed": return x.replayed(n[0]);
            case "entry": return x.entry(n[0], n[1]);
            case "vote": return x.vote(n[0]);
            case "count": return x.count(n[0]);
            case "store": return x.store(n[0], n[1], n[2]);
            case "copy": return x.copy(n[0], n[1], n[2]);
            case "again": return x.again(n[0], n[1]);
            case "element": return x.element(n[0], n[1]);
            case "image": return x.image();
            case "undo": return x.undo();
            default: throw new IllegalArgumentException("no such call: " + call);
        }
    }

    private static int number(String word) {
        switch (word) {
            case "MAX": return Integer.MAX_VALUE;
            case "MIN": return Integer.MIN_VALUE;
            default: return Integer.parseInt(word);
        }
    }

    // ---- all that can be found out of a meeting

    /** What a meeting tells and how it goes on, then the same of its snapshot. It uses it up. */
    private static List<Long> futureOf(AssemblyChair chair) {
        List<Long> seen = new ArrayList<>();
        for (int time = 0; time < 2; time++) {
            lookAt(chair, seen);
            changeRows(chair, seen);
            useUp(chair, seen);
            lookAt(chair, seen);
            seen.add((long) chair.undo());
        }
        return seen;
    }

    private static void lookAt(AssemblyChair chair, List<Long> seen) {
        seen.addAll(Halls.meetingOf(chair));
        seen.addAll(Halls.rowsOf(chair));
        String[] motions = {"0", "1", "2 0 0 50", "2 1 0 0", "2 2 0 51", "2 0 1 0", "2 2 0 52", "3 0",
            "3 1", "3 2", "3 3", "4 9999", "5 3", "6", "7", "8 1", "9", "10", "11"};
        for (int delegate = 0; delegate < chair.count(2); delegate++) {
            for (String motion : motions) {
                seen.add(answer(chair, "rule " + delegate + motion(motion).substring(1)));
            }
        }
    }

    /** Copies tell of which kind each row is. */
    private static void changeRows(AssemblyChair chair, List<Long> seen) {
        for (int row = 0; row < 4; row++) {
            seen.add((long) chair.copy(row, (row + 1) % 4, 1));
        }
        seen.addAll(Halls.rowsOf(chair));
    }

    private static void useUp(AssemblyChair chair, List<Long> seen) {
        seen.add((long) chair.quorum(0));
        for (int delegate = 0; delegate < 12; delegate++) {
            seen.add((long) chair.presence(delegate, 1));
        }
        seen.add((long) chair.open());
        for (int delegate = 0; delegate < 12; delegate++) {
            seen.add((long) chair.speak(delegate));
        }
        seen.add((long) chair.count(11));
        seen.add((long) chair.clause(77));
        rejectAll(chair, seen);
        seen.add((long) chair.move(0, 0, 0, 0, 0));
        for (int clause : Halls.textOf(chair, chair.count(6) - 1)) {
            seen.add((long) clause);
        }
        rejectAll(chair, seen);
        takeAllUp(chair, seen);
    }

    private static void takeAllUp(AssemblyChair chair, List<Long> seen) {
        for (int committee = 0; committee < 4; committee++) {
            seen.add((long) chair.report(committee));
            rejectAll(chair, seen);
        }
        for (int i = 0; i < 4; i++) {
            seen.add((long) chair.pass(500));
            seen.add((long) chair.next());
            rejectAll(chair, seen);
        }
        for (int i = 0; i < 4; i++) {
            seen.add((long) chair.move(0, 10, 0, 0, 0));
            seen.add((long) chair.decide(1, 0));
            rejectAll(chair, seen);
        }
    }

    private static void rejectAll(AssemblyChair chair, List<Long> seen) {
        int everyone = (1 << chair.count(2)) - 1;
        for (int i = 0; i < 40 && chair.pending(-1, 0) > 0; i++) {
            for (int what = 0; what < 6; what++) {
                seen.add((long) chair.pending(chair.pending(-1, 0) - 1, what));
            }
            seen.add((long) chair.decide(0, everyone));
        }
    }
}
