import java.util.ArrayList;
import java.util.List;

/** Meetings to begin a test with, and ways to look at them. */
final class Halls {
    static final int NONE = AssemblyChair.NONE, BAD = AssemblyChair.BAD;
    static final int STATE = AssemblyChair.STATE, FULL = AssemblyChair.FULL;
    static final int NOTHING = -5;

    private Halls() { }

    /** A meeting with delegates of these weights. */
    static AssemblyChair with(int... weights) {
        AssemblyChair chair = new AssemblyChair();
        for (int weight : weights) {
            chair.delegate(weight);
        }
        return chair;
    }

    /** Moves a main motion of these clauses by the delegate 0. */
    static int moveMain(AssemblyChair chair, int... clauses) {
        for (int clause : clauses) {
            chair.clause(clause);
        }
        return chair.move(0, 0, 0, 0, 0);
    }

    /** A meeting of one delegate, of weight 1, with a question of these clauses pending. */
    static AssemblyChair withQuestion(int... clauses) {
        AssemblyChair chair = with(1);
        moveMain(chair, clauses);
        return chair;
    }

    /** Makes a motion by the delegate 0. */
    static int move(AssemblyChair chair, int kind, int... numbers) {
        int a = numbers.length > 0 ? numbers[0] : 0;
        int b = numbers.length > 1 ? numbers[1] : 0;
        int c = numbers.length > 2 ? numbers[2] : 0;
        return chair.move(0, kind, a, b, c);
    }

    static int rule(AssemblyChair chair, int kind, int... numbers) {
        int a = numbers.length > 0 ? numbers[0] : 0;
        int b = numbers.length > 1 ? numbers[1] : 0;
        int c = numbers.length > 2 ? numbers[2] : 0;
        return chair.rule(0, kind, a, b, c);
    }

    /** Decides what is on top by the vote of the delegate 0 alone. */
    static int adopt(AssemblyChair chair) {
        return chair.decide(1, 0);
    }

    static int reject(AssemblyChair chair) {
        return chair.decide(0, 1);
    }

    /** Makes a motion by the delegate 0 and adopts it. */
    static int carry(AssemblyChair chair, int kind, int... numbers) {
        int made = move(chair, kind, numbers);
        return made < 0 ? made : adopt(chair);
    }

    static int[] textOf(AssemblyChair chair, int question) {
        int[] clauses = new int[Math.max(0, chair.text(question, -1))];
        for (int i = 0; i < clauses.length; i++) {
            clauses[i] = chair.text(question, i);
        }
        return clauses;
    }

    static int[] draftOf(AssemblyChair chair) {
        int[] clauses = new int[Math.max(0, chair.draft(-1))];
        for (int i = 0; i < clauses.length; i++) {
            clauses[i] = chair.draft(i);
        }
        return clauses;
    }

    static int[] resolutionOf(AssemblyChair chair, int resolution) {
        int[] clauses = new int[Math.max(0, chair.resolution(resolution, -1))];
        for (int i = 0; i < clauses.length; i++) {
            clauses[i] = chair.resolution(resolution, i);
        }
        return clauses;
    }

    /** The minute, the kind, the delegate and the number of an entry. */
    static int[] entryOf(AssemblyChair chair, int i) {
        return new int[] {chair.entry(i, 0), chair.entry(i, 1), chair.entry(i, 2),
            chair.entry(i, 3)};
    }

    static int[] kindsPending(AssemblyChair chair) {
        int[] kinds = new int[chair.pending(-1, 0)];
        for (int i = 0; i < kinds.length; i++) {
            kinds[i] = chair.pending(i, 0);
        }
        return kinds;
    }

    /** All that questions tell of the meeting, without the rows. */
    static List<Long> meetingOf(AssemblyChair chair) {
        List<Long> seen = new ArrayList<>();
        for (int what = -1; what <= 19; what++) {
            seen.add((long) chair.count(what));
        }
        for (int what = -1; what <= 6; what++) {
            seen.add((long) chair.vote(what));
            for (int i = -2; i <= 11; i++) {
                seen.add((long) chair.pending(i, what));
            }
            for (int question = -1; question <= 20; question++) {
                seen.add((long) chair.question(question, what));
            }
        }
        for (int i = -3; i <= 8; i++) {
            seen.add((long) chair.draft(i));
            for (int number = -1; number <= 20; number++) {
                seen.add((long) chair.text(number, i));
                seen.add((long) chair.resolution(number, i));
            }
        }
        for (int resolution = -1; resolution <= 20; resolution++) {
            seen.add((long) chair.replayed(resolution));
        }
        for (int i = -2; i <= 120; i++) {
            for (int what = -1; what <= 4; what++) {
                seen.add((long) chair.entry(i, what));
            }
        }
        return seen;
    }

    static List<Long> rowsOf(AssemblyChair chair) {
        List<Long> seen = new ArrayList<>();
        for (int row = -1; row <= 4; row++) {
            for (int i = -1; i <= 40; i++) {
                seen.add(chair.element(row, i));
            }
        }
        return seen;
    }
}
