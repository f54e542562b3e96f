import java.util.ArrayList;
import java.util.List;

/**
 * The document a second time, with lists and copies and without a thought of room, to compare
 * with in random runs. It shares nothing with the program but the words of the document.
 */
final class Model {
    private static final int NONE = -1, BAD = -2, STATE = -3, FULL = -4, NOTHING = -5;

    private static final class Item {
        List<Integer> text = new ArrayList<>();
        int mover, state, where, next = NOTHING, amendments;
    }

    /** Motions put aside: where, as a question's state, at which number, and which motions. */
    private record Parcel(int state, int number, List<int[]> motions) { }

    private static final class All {
        List<Integer> weights = new ArrayList<>(), speeches = new ArrayList<>();
        List<Boolean> here = new ArrayList<>();
        List<Integer> buffer = new ArrayList<>(), resolutions = new ArrayList<>();
        List<Item> items = new ArrayList<>();
        /** Each is the kind, the mover, a, b, c and, of a main motion, its question. */
        List<int[]> stack = new ArrayList<>();
        List<Parcel> parcels = new ArrayList<>();
        List<int[]> minutes = new ArrayList<>();
        /** Each is yes, no, neither, adopted, the kind. */
        List<int[]> votes = new ArrayList<>();
        List<Integer> rejected = new ArrayList<>();
        int percentage = 50, minute, left = NOTHING, made, dropped, again;
        int last = NOTHING, winners;
        boolean open = true, closed, questioned;

        All twin() {
            All twin = new All();
            twin.weights.addAll(weights);
            twin.speeches.addAll(speeches);
            twin.here.addAll(here);
            twin.buffer.addAll(buffer);
            twin.resolutions.addAll(resolutions);
            twin.rejected.addAll(rejected);
            twin.minutes.addAll(minutes);
            twin.votes.addAll(votes);
            for (Item item : items) {
                Item copy = new Item();
                copy.text.addAll(item.text);
                copy.mover = item.mover;
                copy.state = item.state;
                copy.where = item.where;
                copy.next = item.next;
                copy.amendments = item.amendments;
                twin.items.add(copy);
            }
            for (int[] motion : stack) {
                twin.stack.add(motion.clone());
            }
            for (Parcel parcel : parcels) {
                List<int[]> motions = new ArrayList<>();
                for (int[] motion : parcel.motions()) {
                    motions.add(motion.clone());
                }
                twin.parcels.add(new Parcel(parcel.state(), parcel.number(), motions));
            }
            twin.percentage = percentage;
            twin.minute = minute;
            twin.left = left;
            twin.made = made;
            twin.dropped = dropped;
            twin.again = again;
            twin.last = last;
            twin.winners = winners;
            twin.open = open;
            twin.closed = closed;
            twin.questioned = questioned;
            return twin;
        }
    }

    private All s = new All();
    private All kept;
    private final Number[][] rows = new Number[4][];

    private boolean delegateExists(int d) {
        return d >= 0 && d < s.weights.size();
    }

    private int weigh(int set, boolean presentOnly) {
        int sum = 0;
        for (int d = 0; d < s.weights.size(); d++) {
            if ((set & 1 << d) != 0 && (!presentOnly || s.here.get(d))) {
                sum += s.weights.get(d);
            }
        }
        return sum;
    }

    private boolean quorate() {
        return !s.weights.isEmpty() && weigh(-1, true) * 100 >= weigh(-1, false) * s.percentage;
    }

    private int[] top() {
        return s.stack.isEmpty() ? null : s.stack.get(s.stack.size() - 1);
    }

    private boolean questionPending() {
        return !s.stack.isEmpty() && s.stack.get(0)[0] == 0;
    }

    private Item pendingItem() {
        return s.items.get(s.stack.get(0)[5]);
    }

    private void log(int kind, int delegate, int number) {
        s.minutes.add(new int[] {s.minute, kind, delegate, number});
    }

    int delegate(int weight) {
        if (weight < 1 || weight > 9) return BAD;
        if (s.weights.size() == 12) return FULL;
        s.weights.add(weight);
        s.speeches.add(0);
        s.here.add(true);
        return s.weights.size() - 1;
    }

    int presence(int d, int on) {
        if (!delegateExists(d)) return NONE;
        if (on != 0 && on != 1) return BAD;
        return s.here.set(d, on == 1) ? 1 : 0;
    }

    int quorum(int percentage) {
        if (percentage < 0 || percentage > 100) return BAD;
        int before = s.percentage;
        s.percentage = percentage;
        return before;
    }

    int clause(int clause) {
        if (clause < 0 || clause > 99) return BAD;
        if (s.buffer.size() == 8) return FULL;
        s.buffer.add(clause);
        return s.buffer.size();
    }

    int rule(int d, int kind, int a, int b, int c) {
        if (!delegateExists(d) || kind < 0 || kind > 11) return NONE;
        if (kind != 2) {
            boolean takesA = kind == 3 || kind == 4 || kind == 5 || kind == 8;
            if (!takesA && a != 0 || b != 0 || c != 0) return BAD;
        }
        if (!s.open) return 1;
        if (!s.here.get(d)) return 2;
        if (!quorate() && kind != 8 && kind != 9) return 3;
        if ((kind == 0 || kind >= 10) && top() != null) return 4;
        if (kind >= 1 && kind <= 7 && !questionPending()) return 5;
        int degree = degreeAt(s.stack.size() - 1);
        if (kind == 2 && degree == 2) return 7;
        boolean secondary = kind == 2 && degree == 1;
        if (kind >= 1 && kind <= 9 && top() != null && kind <= top()[0] && !secondary) return 6;
        if (kind >= 1 && kind <= 6 && s.closed) return 8;
        if (List.of(1, 3, 5, 6, 7).contains(kind) && s.rejected.contains(kind)) return 9;
        return numbers(d, kind, a, b, c, secondary);
    }

    private int numbers(int d, int kind, int a, int b, int c, boolean secondary) {
        if (kind == 0 && s.buffer.isEmpty()) return 10;
        if (kind == 0 && s.items.size() == 20) return 11;
        if (kind == 2 && !(secondary ? secondaryFits(a, b, c) : fits(a, b, c))) return 10;
        if (kind == 3 && (a < 0 || a > 3)) return 10;
        if (kind == 3 && find(1, a) != null) return 11;
        if (kind == 4 && (a <= s.minute || a > 9999)) return 10;
        if (kind == 5 && (a < 1 || a > 20)) return 10;
        if (kind == 7 && holding(3) >= 3) return 11;
        if (kind == 8 && (a < 1 || a > 500 || s.minute + a > 9999)) return 10;
        if (kind == 10 && holding(3) == 0) return 11;
        if (kind == 11 && s.last == NOTHING) return 11;
        if (kind == 11 && (s.questioned || (s.winners & 1 << d) == 0)) return 10;
        return 0;
    }

    private boolean fits(int form, int position, int clause) {
        List<Integer> text = pendingItem().text;
        boolean isThere = position >= 0 && position < text.size();
        boolean isClause = clause >= 0 && clause <= 99;
        if (form == 0) return text.size() < 8 && isClause && (isThere || position == text.size());
        if (form == 1) return isThere && clause == 0 && text.size() >= 2;
        return form == 2 && isThere && isClause && text.get(position) != clause;
    }

    private boolean secondaryFits(int a, int b, int c) {
        int[] primary = top();
        if (a == 0) return c == 0 && b != primary[3] && fits(primary[2], b, primary[4]);
        if (a != 2 || b != 0 || primary[2] == 1) return false;
        return c != primary[4] && fits(primary[2], primary[3], c);
    }

    private Parcel find(int state, int number) {
        for (Parcel parcel : s.parcels) {
            if (parcel.state() == state && parcel.number() == number) return parcel;
        }
        return null;
    }

    private int holding(int state) {
        return (int) s.parcels.stream().filter(parcel -> parcel.state() == state).count();
    }

    int move(int d, int kind, int a, int b, int c) {
        int refusal = rule(d, kind, a, b, c);
        if (refusal != 0) return refusal < 0 ? refusal : -100 - refusal;
        s.made++;
        log(0, d, kind);
        if (kind == 0) {
            Item item = new Item();
            item.mover = d;
            item.text.addAll(s.buffer);
            s.buffer.clear();
            s.items.add(item);
            comeUp(s.items.size() - 1);
        } else {
            s.stack.add(new int[] {kind, d, a, b, c, NOTHING});
        }
        if (kind == 11) s.questioned = true;
        return s.stack.size();
    }

    private void freshDebate() {
        s.left = NOTHING;
        s.closed = false;
        s.rejected.clear();
    }

    private void comeUp(int number) {
        Item item = s.items.get(number);
        item.state = 0;
        s.stack.add(new int[] {0, item.mover, 0, 0, 0, number});
        freshDebate();
    }

    int decide(int yes, int no) {
        int all = (1 << s.weights.size()) - 1;
        if ((yes | no | all) != all || (yes & no) != 0) return BAD;
        if (top() == null) return STATE;
        int[] motion = top();
        int kind = motion[0];
        if (!quorate() && kind != 8 && kind != 9) return STATE;
        int ayes = weigh(yes, true);
        int noes = weigh(no, true);
        boolean adopted = kind == 5 || kind == 6 ? ayes > 0 && ayes >= noes + noes : ayes > noes;
        int silent = weigh(all, true) - ayes - noes;
        s.votes.add(new int[] {ayes, noes, silent, adopted ? 1 : 0, kind});
        log(adopted ? 1 : 2, motion[1], kind);
        int degree = degreeAt(s.stack.size() - 1);
        s.stack.remove(s.stack.size() - 1);
        if (kind == 0) {
            s.last = motion[5];
            s.questioned = false;
            s.winners = 0;
            for (int d = 0; d < s.weights.size(); d++) {
                if (s.here.get(d) && ((adopted ? yes : no) & 1 << d) != 0) s.winners |= 1 << d;
            }
        }
        if (!adopted) {
            s.rejected.add(kind);
            if (kind == 0) end(motion[5], 5);
            return 0;
        }
        s.rejected.clear();
        effect(motion, degree);
        return 1;
    }

    private void effect(int[] motion, int degree) {
        int kind = motion[0];
        int a = motion[2];
        if (kind == 0) {
            s.resolutions.add(motion[5]);
            end(motion[5], 4);
        } else if (kind == 1) {
            s.dropped++;
            end(s.stack.remove(0)[5], 6);
        } else if (kind == 2 && degree == 2) {
            top()[a == 0 ? 3 : 4] = motion[a == 0 ? 3 : 4];
        } else if (kind == 2) {
            change(pendingItem().text, a, motion[3], motion[4]);
            pendingItem().amendments++;
        } else if (kind == 3) {
            away(1, a);
        } else if (kind == 4) {
            away(2, a);
        } else if (kind == 5) {
            s.left = a;
        } else if (kind == 6) {
            s.closed = true;
        } else if (kind == 7) {
            away(3, 0);
        } else if (kind == 8) {
            s.minute = Math.min(9999, s.minute + a);
        } else if (kind == 9) {
            s.open = false;
            away(2, s.minute);
        } else if (kind == 10) {
            int place = s.parcels.size() - 1;
            while (s.parcels.get(place).state() != 3) {
                place--;
            }
            back(s.parcels.get(place));
        } else {
            s.resolutions.remove((Integer) s.last);
            s.again++;
            comeUp(s.last);
        }
    }

    private static void change(List<Integer> text, int form, int position, int clause) {
        if (form == 0) text.add(position, clause);
        if (form == 1) text.remove(position);
        if (form == 2) text.set(position, clause);
    }

    private void end(int number, int state) {
        Item item = s.items.get(number);
        item.state = state;
        int next = item.next;
        item.next = NOTHING;
        if (next != NOTHING) {
            s.again++;
            comeUp(next);
        }
    }

    private void away(int state, int number) {
        if (s.stack.isEmpty()) return;
        if (questionPending()) {
            pendingItem().state = state;
            pendingItem().where = number;
        }
        s.parcels.add(new Parcel(state, number, s.stack));
        s.stack = new ArrayList<>();
    }

    private void back(Parcel parcel) {
        s.parcels.removeIf(other -> other == parcel);
        s.stack = parcel.motions();
        if (questionPending()) {
            pendingItem().state = 0;
            freshDebate();
        }
    }

    private int takeUp(Parcel parcel) {
        back(parcel);
        int number = questionPending() ? s.stack.get(0)[5] : 99;
        log(5, s.stack.get(0)[1], number);
        return number;
    }

    int speak(int d) {
        if (!delegateExists(d)) return NONE;
        if (!s.open || !s.here.get(d) || !questionPending() || s.closed || !quorate()) {
            return STATE;
        }
        if (s.left > 0 && --s.left == 0) s.closed = true;
        s.speeches.set(d, s.speeches.get(d) + 1);
        log(3, d, s.speeches.get(d));
        return s.speeches.get(d);
    }

    int divide(int position) {
        if (s.stack.size() != 1 || !questionPending()) return STATE;
        Item item = pendingItem();
        if (position < 1 || position >= item.text.size()) return BAD;
        if (s.items.size() == 20) return FULL;
        Item part = new Item();
        part.state = 7;
        part.mover = item.mover;
        part.next = item.next;
        List<Integer> tail = item.text.subList(position, item.text.size());
        part.text.addAll(tail);
        tail.clear();
        item.next = s.items.size();
        s.items.add(part);
        log(4, top()[1], position);
        return item.next;
    }

    int report(int committee) {
        if (committee < 0 || committee > 3) return NONE;
        Parcel parcel = find(1, committee);
        if (parcel == null || top() != null || !s.open) return STATE;
        return takeUp(parcel);
    }

    int next() {
        if (top() != null || !s.open) return STATE;
        for (int minute = 0; minute <= s.minute; minute++) {
            Parcel parcel = find(2, minute);
            if (parcel != null) return takeUp(parcel);
        }
        return NOTHING;
    }

    int pass(int n) {
        if (n < 1 || n > 500) return BAD;
        if (s.minute + n > 9999) return FULL;
        return s.minute += n;
    }

    int open() {
        if (s.open) return STATE;
        s.open = true;
        return s.minute;
    }

    private int degreeAt(int i) {
        if (i < 0 || s.stack.get(i)[0] != 2) return 0;
        return s.stack.get(i - 1)[0] == 2 ? 2 : 1;
    }

    int pending(int i, int what) {
        if (i == -1) return s.stack.size();
        if (i < 0 || i >= s.stack.size() || what < 0 || what > 5) return NONE;
        return what == 5 ? degreeAt(i) : s.stack.get(i)[what];
    }

    private static int at(List<Integer> list, int i) {
        if (i == -1) return list.size();
        return i < 0 || i >= list.size() ? NONE : list.get(i);
    }

    int text(int q, int i) {
        return q < 0 || q >= s.items.size() ? NONE : at(s.items.get(q).text, i);
    }

    int question(int q, int what) {
        if (q < 0 || q >= s.items.size() || what < 0 || what > 4) return NONE;
        Item item = s.items.get(q);
        int number = item.state == 1 || item.state == 2 ? item.where
            : item.state == 4 ? s.resolutions.indexOf(q) : NOTHING;
        return new int[] {item.state, number, item.mover, item.next, item.amendments}[what];
    }

    int draft(int i) {
        if (!questionPending()) return STATE;
        List<Integer> text = new ArrayList<>(pendingItem().text);
        for (int place = 0; place < s.stack.size(); place++) {
            if (degreeAt(place) != 1) continue;
            int[] primary = s.stack.get(place).clone();
            if (place + 1 < s.stack.size() && degreeAt(place + 1) == 2) {
                int[] secondary = s.stack.get(place + 1);
                int changed = secondary[2] == 0 ? 3 : 4;
                primary[changed] = secondary[changed];
            }
            change(text, primary[2], primary[3], primary[4]);
        }
        return at(text, i);
    }

    int resolution(int r, int i) {
        if (r < 0 || r >= s.resolutions.size()) return NONE;
        return i == -2 ? s.resolutions.get(r) : text(s.resolutions.get(r), i);
    }

    int replayed(int r) {
        if (r < 0 || r >= s.resolutions.size()) return NONE;
        return s.minutes.size() > 120 ? NOTHING : 1;
    }

    int entry(int i, int what) {
        if (i == -1) return s.minutes.size();
        if (i < 0 || i >= Math.min(120, s.minutes.size()) || what < 0 || what > 3) return NONE;
        return s.minutes.get(i)[what];
    }

    private static float share(int part, int[] vote) {
        return vote[0] + vote[1] == 0 ? 0f : (float) part / (vote[0] + vote[1]);
    }

    int vote(int what) {
        if (s.votes.isEmpty()) return STATE;
        int[] vote = s.votes.get(s.votes.size() - 1);
        if (what == 5) return Float.floatToIntBits(share(vote[0], vote));
        return what < 0 || what > 4 ? NONE : vote[what];
    }

    int count(int what) {
        int pendingOnes = s.stack.size();
        for (Parcel parcel : s.parcels) {
            pendingOnes += parcel.motions().size();
        }
        int adopted = (int) s.votes.stream().filter(vote -> vote[3] == 1).count();
        int busy = (int) s.parcels.stream().filter(parcel -> parcel.state() == 1)
            .map(Parcel::number).distinct().count();
        int[] all = {s.minute, s.open ? 1 : 0, s.weights.size(), weigh(-1, true), weigh(-1, false),
            quorate() ? 1 : 0, s.items.size(), s.resolutions.size(), holding(3), holding(2), busy,
            questionPending() ? s.left : NOTHING, questionPending() && s.closed ? 1 : 0,
            s.made, adopted, s.votes.size() - adopted, pendingOnes, s.dropped, s.again};
        return what < 0 || what >= all.length ? NONE : all[what];
    }

    private static boolean isRow(int row) {
        return row >= 0 && row < 4;
    }

    int store(int row, int what, int exact) {
        if (!isRow(row) || what != 0 && what != 1) return NONE;
        if (exact != 0 && exact != 1) return BAD;
        if (s.votes.isEmpty()) return STATE;
        rows[row] = new Number[Math.min(40, s.votes.size())];
        for (int i = 0; i < rows[row].length; i++) {
            int[] vote = s.votes.get(i);
            if (exact == 1) {
                rows[row][i] = vote[what];
            } else {
                rows[row][i] = share(vote[what], vote);
            }
        }
        return rows[row].length;
    }

    int copy(int from, int to, int n) {
        if (!isRow(from) || !isRow(to)) return NONE;
        if (rows[from] == null || rows[to] == null) return STATE;
        if (n < 0 || n > rows[from].length || n > rows[to].length) return BAD;
        if (n > 0 && rows[from][0].getClass() != rows[to][0].getClass()) return FULL;
        int changed = 0;
        for (int i = 0; i < n; i++) {
            if (!rows[from][i].equals(rows[to][i])) changed++;
            rows[to][i] = rows[from][i];
        }
        return changed;
    }

    int again(int from, int to) {
        if (!isRow(from) || !isRow(to)) return NONE;
        if (rows[from] == null) return STATE;
        rows[to] = rows[from].clone();
        return rows[to].length;
    }

    long element(int row, int i) {
        if (!isRow(row) || rows[row] == null || i < 0 || i >= rows[row].length) {
            return Long.MIN_VALUE;
        }
        Number number = rows[row][i];
        return number instanceof Float share ? Float.floatToIntBits(share) : number.longValue();
    }

    int image() {
        kept = s.twin();
        return s.items.size();
    }

    int undo() {
        if (kept == null) return STATE;
        s = kept.twin();
        return s.items.size();
    }
}
