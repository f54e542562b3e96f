/**
 * The chair of an assembly of delegates. The document ../shared/DOC.md says what every method does.
 *
 * The state that a snapshot contains is one Meeting; this class answers the calls from it, tests
 * their arguments and knows the rules by which a motion is refused.
 */
public final class AssemblyChair {
    public static final int NONE = -1, BAD = -2, STATE = -3, FULL = -4;
    public static final long NO = Long.MIN_VALUE;

    /** The answer that is no error: there is nothing of the kind. */
    private static final int NOTHING = -5;
    /** The number that stands for a question where there is none. */
    private static final int NO_QUESTION = 99;
    /** The place in a list where nothing was found. */
    private static final int NOWHERE = -1;

    private static final int MOST_DELEGATES = 12, MOST_WEIGHT = 9, MOST_QUESTIONS = 20;
    private static final int MOST_CLAUSES = 8, HIGHEST_CLAUSE = 99;
    private static final int LAST_MINUTE = 9999, LONGEST_PASS = 500, MOST_SPEECHES = 20;
    private static final int COMMITTEES = 4, TABLE_ROOM = 3;
    private static final int KEPT_ENTRIES = 120, ROWS = 4, ROW_LENGTH = 40;
    /**
     * What is put aside holds one of the 20 questions or a recess alone; the latter takes three
     * calls, and a fourth to open the meeting again: 128 of them in an object's 512 calls.
     */
    private static final int SHELF_ROOM = 160;

    // The kinds of motions.
    private static final int MAIN = 0, DROP = 1, AMEND = 2, REFER = 3, POSTPONE = 4, LIMIT = 5;
    private static final int CLOSE = 6, LAY = 7, RECESS = 8, ADJOURN = 9, TAKE_UP = 10;
    private static final int RECONSIDER = 11;

    // The forms of an amendment.
    private static final int INSERT = 0, STRIKE = 1, REPLACE = 2;

    // The states of a question; the second to the fourth are also the places on the shelf.
    private static final int PENDING = 0, IN_COMMITTEE = 1, WAITING = 2, ON_TABLE = 3;
    private static final int RESOLVED = 4, REJECTED = 5, DROPPED = 6, PART = 7;

    // The kinds of entries in the minutes.
    private static final int MADE = 0, WAS_ADOPTED = 1, WAS_REJECTED = 2, SPEECH = 3;
    private static final int DIVISION = 4, TAKEN_UP = 5;

    private final Meeting now = new Meeting();
    private final Meeting snapshot = new Meeting();
    private boolean hasSnapshot;
    private final Row[] rows = new Row[ROWS];
    /** A text to work on in a question, which changes nothing that stays. */
    private final Text scratch = new Text();

    public AssemblyChair() {
        for (int i = 0; i < ROWS; i++) {
            rows[i] = new Row();
        }
    }

    // ---- delegates, time and the buffer

    public int delegate(int weight) {
        if (weight < 1 || weight > MOST_WEIGHT) {
            return BAD;
        }
        if (now.house.size >= MOST_DELEGATES) {
            return FULL;
        }
        return now.house.admit(weight);
    }

    public int presence(int delegate, int on) {
        if (!now.house.has(delegate)) {
            return NONE;
        }
        if (on != 0 && on != 1) {
            return BAD;
        }
        int before = bit(now.house.isPresent(delegate));
        now.house.setPresent(delegate, on == 1);
        return before;
    }

    public int quorum(int percentage) {
        if (percentage < 0 || percentage > 100) {
            return BAD;
        }
        int before = now.house.percentage;
        now.house.percentage = percentage;
        return before;
    }

    public int clause(int clause) {
        if (!isClause(clause)) {
            return BAD;
        }
        if (now.buffer.length >= MOST_CLAUSES) {
            return FULL;
        }
        now.buffer.append(clause);
        return now.buffer.length;
    }

    public int pass(int n) {
        if (n < 1 || n > LONGEST_PASS) {
            return BAD;
        }
        if (now.minute + n > LAST_MINUTE) {
            return FULL;
        }
        now.minute += n;
        return now.minute;
    }

    public int open() {
        if (now.isOpen) {
            return STATE;
        }
        now.isOpen = true;
        return now.minute;
    }

    // ---- motions, decisions, debate and division

    public int move(int delegate, int kind, int a, int b, int c) {
        int refusal = rule(delegate, kind, a, b, c);
        if (refusal < 0) {
            return refusal;
        }
        if (refusal > 0) {
            return -100 - refusal;
        }
        now.make(delegate, kind, a, b, c);
        return now.height();
    }

    public int decide(int yes, int no) {
        if (((yes | no) & ~now.house.everyone()) != 0 || (yes & no) != 0) {
            return BAD;
        }
        Motion motion = now.top;
        if (motion == null || lacksQuorum(motion.kind)) {
            return STATE;
        }
        return bit(now.settle(motion, yes, no));
    }

    public int speak(int delegate) {
        if (!now.house.has(delegate)) {
            return NONE;
        }
        if (!maySpeak(delegate)) {
            return STATE;
        }
        return now.hear(delegate);
    }

    public int divide(int position) {
        Motion main = now.top;
        Question question = now.pendingQuestion();
        if (main == null || main.kind != MAIN || question == null) {
            return STATE;
        }
        if (position < 1 || position >= question.text.length) {
            return BAD;
        }
        if (now.docket.isFull()) {
            return FULL;
        }
        return now.splitOff(main, question, position);
    }

    public int report(int committee) {
        if (committee < 0 || committee >= COMMITTEES) {
            return NONE;
        }
        int place = now.shelf.firstInCommittee(committee);
        if (place == NOWHERE || now.top != null || !now.isOpen) {
            return STATE;
        }
        return now.takeFromShelf(place);
    }

    public int next() {
        if (now.top != null || !now.isOpen) {
            return STATE;
        }
        int place = now.shelf.firstDue(now.minute);
        if (place == NOWHERE) {
            return NOTHING;
        }
        return now.takeFromShelf(place);
    }

    // ---- the rules

    public int rule(int delegate, int kind, int a, int b, int c) {
        if (!now.house.has(delegate) || kind < MAIN || kind > RECONSIDER) {
            return NONE;
        }
        if (hasNeedlessNumber(kind, a, b, c)) {
            return BAD;
        }
        int refusal = ruleOfMeeting(delegate, kind);
        if (refusal == 0) {
            refusal = isMadeAlone(kind) ? ruleOfFreeFloor() : ruleOfPrecedence(kind);
        }
        if (refusal == 0) {
            refusal = ruleOfDebate(kind);
        }
        return refusal != 0 ? refusal : ruleOfNumbers(delegate, kind, a, b, c);
    }

    private static boolean hasNeedlessNumber(int kind, int a, int b, int c) {
        if (kind == AMEND) {
            return false;
        }
        boolean needsA = kind == REFER || kind == POSTPONE || kind == LIMIT || kind == RECESS;
        return b != 0 || c != 0 || a != 0 && !needsA;
    }

    private int ruleOfMeeting(int mover, int kind) {
        if (!now.isOpen) {
            return 1;
        }
        if (!now.house.isPresent(mover)) {
            return 2;
        }
        return lacksQuorum(kind) ? 3 : 0;
    }

    private boolean lacksQuorum(int kind) {
        return kind != RECESS && kind != ADJOURN && !now.house.hasQuorum();
    }

    private static boolean isMadeAlone(int kind) {
        return kind == MAIN || kind == TAKE_UP || kind == RECONSIDER;
    }

    private int ruleOfFreeFloor() {
        return now.top != null ? 4 : 0;
    }

    /** The rules 5 to 7 for the kinds 1 to 9. */
    private int ruleOfPrecedence(int kind) {
        Motion top = now.top;
        if (kind <= LAY && now.pendingQuestion() == null) {
            return 5;
        }
        if (top == null) {
            return 0;
        }
        if (kind == AMEND && top.degree() == 2) {
            return 7;
        }
        boolean isSecondary = kind == AMEND && top.degree() == 1;
        return kind <= top.kind && !isSecondary ? 6 : 0;
    }

    private int ruleOfDebate(int kind) {
        if (kind >= DROP && kind <= CLOSE && now.debate.isClosed) {
            return 8;
        }
        boolean isMadeOnce = kind == DROP || kind == REFER || kind >= LIMIT && kind <= LAY;
        return isMadeOnce && now.debate.hasRejected(kind) ? 9 : 0;
    }

    /** The rules 10 and 11. */
    private int ruleOfNumbers(int mover, int kind, int a, int b, int c) {
        switch (kind) {
            case MAIN:
                return now.buffer.length == 0 ? 10 : ruleOfRoom(!now.docket.isFull());
            case AMEND:
                return ruleOfRange(isPossibleAmendment(a, b, c));
            case REFER:
                return a < 0 || a >= COMMITTEES ? 10
                    : ruleOfRoom(now.shelf.firstInCommittee(a) == NOWHERE);
            case POSTPONE:
                return ruleOfRange(a > now.minute && a <= LAST_MINUTE);
            case LIMIT:
                return ruleOfRange(a >= 1 && a <= MOST_SPEECHES);
            case LAY:
                return ruleOfRoom(now.shelf.sizeOf(ON_TABLE) < TABLE_ROOM);
            case RECESS:
                return ruleOfRange(a >= 1 && a <= LONGEST_PASS && now.minute + a <= LAST_MINUTE);
            case TAKE_UP:
                return ruleOfRoom(now.shelf.sizeOf(ON_TABLE) > 0);
            case RECONSIDER:
                return now.ballots.mainQuestion == NO_QUESTION ? 11
                    : ruleOfRange(now.ballots.canReconsider(mover));
            default:
                return 0;
        }
    }

    private static int ruleOfRange(boolean isAsTold) {
        return isAsTold ? 0 : 10;
    }

    private static int ruleOfRoom(boolean hasRoom) {
        return hasRoom ? 0 : 11;
    }

    private boolean isPossibleAmendment(int a, int b, int c) {
        Motion top = now.top;
        Question question = now.pendingQuestion();
        if (top == null || question == null) {
            return false;
        }
        if (top.degree() != 1) {
            return question.text.allows(a, b, c);
        }
        return isPossibleSecondary(question.text, top, a, b, c);
    }

    private static boolean isPossibleSecondary(Text text, Motion primary, int a, int b, int c) {
        if (a == INSERT) {
            return c == 0 && b != primary.b && text.allows(primary.a, b, primary.c);
        }
        return a == REPLACE && b == 0 && c != primary.c && primary.a != STRIKE
            && text.allows(primary.a, primary.b, c);
    }

    private boolean maySpeak(int delegate) {
        return now.isOpen && now.house.isPresent(delegate) && now.pendingQuestion() != null
            && !now.debate.isClosed && now.house.hasQuorum();
    }

    // ---- what is asked of motions and questions

    public int pending(int i, int what) {
        if (i == -1) {
            return now.height();
        }
        Motion motion = now.motionAt(i);
        if (motion == null) {
            return NONE;
        }
        switch (what) {
            case 0: return motion.kind;
            case 1: return motion.mover;
            case 2: return motion.a;
            case 3: return motion.b;
            case 4: return motion.c;
            case 5: return motion.degree();
            default: return NONE;
        }
    }

    public int text(int question, int i) {
        Question asked = now.docket.at(question);
        return asked == null ? NONE : asked.text.at(i);
    }

    public int question(int question, int what) {
        Question asked = now.docket.at(question);
        if (asked == null) {
            return NONE;
        }
        switch (what) {
            case 0: return asked.state;
            case 1: return numberOfState(question, asked);
            case 2: return asked.mover;
            case 3: return asked.nextPart;
            case 4: return asked.amendments;
            default: return NONE;
        }
    }

    private int numberOfState(int number, Question question) {
        switch (question.state) {
            case IN_COMMITTEE:
            case WAITING:
                return question.place;
            case RESOLVED:
                return now.docket.resolutionOf(number);
            default:
                return NOTHING;
        }
    }

    public int draft(int i) {
        Question question = now.pendingQuestion();
        if (question == null) {
            return STATE;
        }
        scratch.become(question.text);
        Motion amendment = draftedAmendment(now.top);
        if (amendment != null) {
            scratch.amend(amendment.a, amendment.b, amendment.c);
        }
        return scratch.at(i);
    }

    /** The pending primary amendment, changed by the secondary one if there is one. */
    private static Motion draftedAmendment(Motion top) {
        for (Motion motion = top; motion != null; motion = motion.below) {
            if (motion.degree() == 1) {
                return motion;
            }
            if (motion.degree() == 2 && motion.below != null) {
                return motion.below.changedBy(motion);
            }
        }
        return null;
    }

    public int resolution(int resolution, int i) {
        int number = now.docket.questionOf(resolution);
        return i == -2 && number != NO_QUESTION ? number : text(number, i);
    }

    public int replayed(int resolution) {
        int number = now.docket.questionOf(resolution);
        Question question = now.docket.at(number);
        if (question == null) {
            return NONE;
        }
        if (now.minutes.total > KEPT_ENTRIES) {
            return NOTHING;
        }
        scratch.become(question.first);
        now.minutes.replay(number, scratch);
        return bit(scratch.isSameAs(question.text));
    }

    // ---- the minutes, votes and counts

    public int entry(int i, int what) {
        if (i == -1) {
            return now.minutes.total;
        }
        if (i < 0 || i >= now.minutes.kept) {
            return NONE;
        }
        switch (what) {
            case 0: return now.minutes.minute[i];
            case 1: return now.minutes.kind[i];
            case 2: return now.minutes.delegate[i];
            case 3: return now.minutes.number[i];
            default: return NONE;
        }
    }

    public int vote(int what) {
        Ballots ballots = now.ballots;
        if (ballots.decided == 0) {
            return STATE;
        }
        switch (what) {
            case 0: return ballots.lastYes;
            case 1: return ballots.lastNo;
            case 2: return ballots.lastNeither;
            case 3: return bit(ballots.lastWasAdopted);
            case 4: return ballots.lastKind;
            case 5: return shareBits(ballots.lastYes, ballots.lastYes + ballots.lastNo);
            default: return NONE;
        }
    }

    public int count(int what) {
        switch (what) {
            case 0: return now.minute;
            case 1: return bit(now.isOpen);
            case 2: return now.house.size;
            case 3: return now.house.weightOf(now.house.present);
            case 4: return now.house.weightOf(now.house.everyone());
            case 5: return bit(now.house.hasQuorum());
            case 6: return now.docket.size;
            case 7: return now.docket.resolutions;
            case 8: return now.shelf.sizeOf(ON_TABLE);
            case 9: return now.shelf.sizeOf(WAITING);
            case 10: return now.shelf.busyCommittees();
            case 11: return now.pendingQuestion() == null ? NOTHING : now.debate.speechesLeft;
            case 12: return bit(now.pendingQuestion() != null && now.debate.isClosed);
            case 13: return now.motionsMade;
            case 14: return now.ballots.adopted;
            case 15: return now.ballots.decided - now.ballots.adopted;
            case 16: return now.height() + now.shelf.motions();
            case 17: return now.mainsDropped;
            case 18: return now.mainsNotMade;
            default: return NONE;
        }
    }

    // ---- rows

    public int store(int row, int what, int exact) {
        if (!isRow(row) || what != 0 && what != 1) {
            return NONE;
        }
        if (exact != 0 && exact != 1) {
            return BAD;
        }
        if (now.ballots.decided == 0) {
            return STATE;
        }
        fill(rows[row], what, exact == 1);
        return rows[row].length;
    }

    private void fill(Row row, int what, boolean isExact) {
        Ballots ballots = now.ballots;
        row.isExact = isExact;
        row.length = ballots.kept;
        for (int i = 0; i < row.length; i++) {
            int weight = what == 0 ? ballots.yes[i] : ballots.no[i];
            row.values[i] = isExact ? weight : shareBits(weight, ballots.yes[i] + ballots.no[i]);
        }
    }

    public int copy(int from, int to, int n) {
        if (!isRow(from) || !isRow(to)) {
            return NONE;
        }
        if (rows[from].length == 0 || rows[to].length == 0) {
            return STATE;
        }
        if (n < 0 || n > rows[from].length || n > rows[to].length) {
            return BAD;
        }
        if (n > 0 && rows[from].isExact != rows[to].isExact) {
            return FULL;
        }
        return rows[to].takeFirst(rows[from], n);
    }

    public int again(int from, int to) {
        if (!isRow(from) || !isRow(to)) {
            return NONE;
        }
        if (rows[from].length == 0) {
            return STATE;
        }
        rows[to].become(rows[from]);
        return rows[to].length;
    }

    public long element(int row, int i) {
        if (!isRow(row) || i < 0 || i >= rows[row].length) {
            return NO;
        }
        return rows[row].values[i];
    }

    private static boolean isRow(int row) {
        return row >= 0 && row < ROWS;
    }

    // ---- the snapshot

    public int image() {
        snapshot.become(now);
        hasSnapshot = true;
        return now.docket.size;
    }

    public int undo() {
        if (!hasSnapshot) {
            return STATE;
        }
        now.become(snapshot);
        return now.docket.size;
    }

    // ---- small things

    private static int bit(boolean holds) {
        return holds ? 1 : 0;
    }

    private static boolean isClause(int clause) {
        return clause >= 0 && clause <= HIGHEST_CLAUSE;
    }

    /**
     * The bits of part / whole as a float, of 0 for no whole. Doubling the share and taking the
     * one off it are exact, so that the fraction of the float is laid open digit by digit.
     */
    private static int shareBits(int part, int whole) {
        if (part <= 0 || whole <= 0) {
            return 0;
        }
        float share = (float) part / (float) whole;
        int exponent = 127;
        for (int i = 0; i < 126 && share < 1.0f; i++) {
            share = share * 2.0f;
            exponent--;
        }
        return (exponent << 23) + (int) ((share - 1.0f) * 8388608.0f);
    }

    /**
     * A motion and those that it lies on. It never changes, so that one that is put aside or in
     * the snapshot is kept by keeping the one on top.
     */
    private static final class Motion {
        final int kind, mover, a, b, c;
        /** The question of the main motion at the bottom, or NO_QUESTION. */
        final int question;
        final int height;
        final Motion below;

        Motion(int kind, int mover, int a, int b, int c, int question, Motion below) {
            this.kind = kind;
            this.mover = mover;
            this.a = a;
            this.b = b;
            this.c = c;
            this.question = question;
            this.below = below;
            this.height = below == null ? 1 : below.height + 1;
        }

        int degree() {
            if (kind != AMEND) {
                return 0;
            }
            return below != null && below.kind == AMEND ? 2 : 1;
        }

        /** This primary amendment after a secondary one was adopted. */
        Motion changedBy(Motion secondary) {
            int position = secondary.a == INSERT ? secondary.b : b;
            int clause = secondary.a == REPLACE ? secondary.c : c;
            return new Motion(kind, mover, a, position, clause, question, below);
        }

        Motion lowest() {
            Motion motion = this;
            while (motion.below != null) {
                motion = motion.below;
            }
            return motion;
        }
    }

    /** Up to eight clauses. */
    private static final class Text {
        int length;
        final int[] clauses = new int[MOST_CLAUSES];

        void become(Text other) {
            length = other.length;
            System.arraycopy(other.clauses, 0, clauses, 0, MOST_CLAUSES);
        }

        /** The clause at a position, the number of clauses for -1, NONE for no position. */
        int at(int i) {
            if (i == -1) {
                return length;
            }
            return has(i) ? clauses[i] : NONE;
        }

        boolean has(int i) {
            return i >= 0 && i < length;
        }

        void append(int clause) {
            if (length < MOST_CLAUSES) {
                clauses[length] = clause;
                length++;
            }
        }

        boolean allows(int form, int position, int clause) {
            switch (form) {
                case INSERT:
                    return length < MOST_CLAUSES && position >= 0 && position <= length
                        && isClause(clause);
                case STRIKE:
                    return length >= 2 && has(position) && clause == 0;
                case REPLACE:
                    return has(position) && isClause(clause) && clauses[position] != clause;
                default:
                    return false;
            }
        }

        void amend(int form, int position, int clause) {
            if (!allows(form, position, clause)) {
                return;
            }
            if (form == INSERT) {
                insert(position, clause);
            } else if (form == STRIKE) {
                strike(position);
            } else {
                clauses[position] = clause;
            }
        }

        private void insert(int position, int clause) {
            for (int i = length; i > position; i--) {
                clauses[i] = clauses[i - 1];
            }
            clauses[position] = clause;
            length++;
        }

        private void strike(int position) {
            for (int i = position; i < length - 1; i++) {
                clauses[i] = clauses[i + 1];
            }
            length--;
        }

        void cutTo(int newLength) {
            if (has(newLength)) {
                length = newLength;
            }
        }

        void becomeEndOf(Text other, int position) {
            length = 0;
            for (int i = Math.max(position, 0); i < other.length; i++) {
                append(other.clauses[i]);
            }
        }

        boolean isSameAs(Text other) {
            if (length != other.length) {
                return false;
            }
            for (int i = 0; i < length; i++) {
                if (clauses[i] != other.clauses[i]) {
                    return false;
                }
            }
            return true;
        }
    }

    private static final class Question {
        final Text text = new Text();
        /** The text with which it came up or was divided off. */
        final Text first = new Text();
        int mover, state, amendments;
        /** The committee or the minute, while it is there. */
        int place;
        int nextPart;

        void begin(int itsMover, int itsState) {
            mover = itsMover;
            state = itsState;
            amendments = 0;
            place = 0;
            nextPart = NOTHING;
        }

        void become(Question other) {
            text.become(other.text);
            first.become(other.first);
            mover = other.mover;
            state = other.state;
            amendments = other.amendments;
            place = other.place;
            nextPart = other.nextPart;
        }
    }

    /** All questions, and which of them are resolutions. */
    private static final class Docket {
        int size, resolutions;
        private final Question[] questions = new Question[MOST_QUESTIONS];
        private final int[] resolved = new int[MOST_QUESTIONS];

        Docket() {
            for (int i = 0; i < MOST_QUESTIONS; i++) {
                questions[i] = new Question();
            }
        }

        void become(Docket other) {
            size = other.size;
            resolutions = other.resolutions;
            for (int i = 0; i < MOST_QUESTIONS; i++) {
                questions[i].become(other.questions[i]);
                resolved[i] = other.resolved[i];
            }
        }

        boolean isFull() {
            return size >= MOST_QUESTIONS;
        }

        /** The question of a number, null if there is none. */
        Question at(int number) {
            return number >= 0 && number < size ? questions[number] : null;
        }

        /** Adds a question; the caller has looked that there is room, and gives it its text. */
        Question begin(int mover, int state) {
            if (isFull()) {
                return null;
            }
            Question question = questions[size];
            size++;
            question.begin(mover, state);
            return question;
        }

        void addResolution(int number) {
            if (resolutions < MOST_QUESTIONS) {
                resolved[resolutions] = number;
                resolutions++;
            }
        }

        /** The number of a question's resolution, or NOTHING. */
        int resolutionOf(int number) {
            for (int i = 0; i < resolutions; i++) {
                if (resolved[i] == number) {
                    return i;
                }
            }
            return NOTHING;
        }

        /** The question of a resolution, or NO_QUESTION. */
        int questionOf(int resolution) {
            return resolution >= 0 && resolution < resolutions ? resolved[resolution] : NO_QUESTION;
        }

        void removeResolutionOf(int number) {
            int place = resolutionOf(number);
            if (place == NOTHING) {
                return;
            }
            for (int i = place; i < resolutions - 1; i++) {
                resolved[i] = resolved[i + 1];
            }
            resolutions--;
        }
    }

    /** The delegates and their quorum. */
    private static final class House {
        int size, percentage = 50;
        /** The set of those that are present. */
        int present;
        private final int[] weights = new int[MOST_DELEGATES];
        private final int[] speeches = new int[MOST_DELEGATES];

        void become(House other) {
            size = other.size;
            percentage = other.percentage;
            present = other.present;
            System.arraycopy(other.weights, 0, weights, 0, MOST_DELEGATES);
            System.arraycopy(other.speeches, 0, speeches, 0, MOST_DELEGATES);
        }

        /** Adds a delegate; the caller has looked that there is room. */
        int admit(int weight) {
            int number = size;
            if (number < MOST_DELEGATES) {
                weights[number] = weight;
                speeches[number] = 0;
                size++;
                setPresent(number, true);
            }
            return number;
        }

        boolean has(int delegate) {
            return delegate >= 0 && delegate < size;
        }

        boolean isPresent(int delegate) {
            return has(delegate) && isIn(present, delegate);
        }

        static boolean isIn(int set, int delegate) {
            return (set >> delegate & 1) == 1;
        }

        void setPresent(int delegate, boolean on) {
            int alone = 1 << delegate;
            present = on ? present | alone : present & ~alone;
        }

        int everyone() {
            return (1 << size) - 1;
        }

        int weightOf(int set) {
            int weight = 0;
            for (int i = 0; i < size; i++) {
                weight += isIn(set, i) ? weights[i] : 0;
            }
            return weight;
        }

        boolean hasQuorum() {
            return size > 0 && weightOf(present) * 100 >= weightOf(everyone()) * percentage;
        }

        int addSpeech(int delegate) {
            if (!has(delegate)) {
                return 0;
            }
            speeches[delegate]++;
            return speeches[delegate];
        }
    }

    /** What was put aside, in the order in which it was: each by the motion on top of it. */
    private static final class Shelf {
        private int size;
        private final Motion[] tops = new Motion[SHELF_ROOM];
        private final int[] states = new int[SHELF_ROOM];
        /** The committee or the minute of each. */
        private final int[] places = new int[SHELF_ROOM];

        void become(Shelf other) {
            size = other.size;
            for (int i = 0; i < size; i++) {
                tops[i] = other.tops[i];
                states[i] = other.states[i];
                places[i] = other.places[i];
            }
        }

        void put(Motion top, int state, int place) {
            if (size < SHELF_ROOM) {
                tops[size] = top;
                states[size] = state;
                places[size] = place;
                size++;
            }
        }

        /** Removes what lies there; null if there is nothing. */
        Motion take(int index) {
            if (index < 0 || index >= size) {
                return null;
            }
            Motion top = tops[index];
            for (int i = index; i < size - 1; i++) {
                tops[i] = tops[i + 1];
                states[i] = states[i + 1];
                places[i] = places[i + 1];
            }
            size--;
            return top;
        }

        int sizeOf(int state) {
            int found = 0;
            for (int i = 0; i < size; i++) {
                found += states[i] == state ? 1 : 0;
            }
            return found;
        }

        int firstInCommittee(int committee) {
            for (int i = 0; i < size; i++) {
                if (states[i] == IN_COMMITTEE && places[i] == committee) {
                    return i;
                }
            }
            return NOWHERE;
        }

        int busyCommittees() {
            int busy = 0;
            for (int committee = 0; committee < COMMITTEES; committee++) {
                busy += firstInCommittee(committee) == NOWHERE ? 0 : 1;
            }
            return busy;
        }

        int lastOnTable() {
            for (int i = size - 1; i >= 0; i--) {
                if (states[i] == ON_TABLE) {
                    return i;
                }
            }
            return NOWHERE;
        }

        /** What waits for the earliest minute that has come, of those the first put aside. */
        int firstDue(int minute) {
            int best = NOWHERE;
            int earliest = minute + 1;
            for (int i = 0; i < size; i++) {
                if (states[i] == WAITING && places[i] < earliest) {
                    best = i;
                    earliest = places[i];
                }
            }
            return best;
        }

        int motions() {
            int motions = 0;
            for (int i = 0; i < size; i++) {
                motions += tops[i] == null ? 0 : tops[i].height;
            }
            return motions;
        }
    }

    private static final class Minutes {
        /** The number of all entries, those not kept included. */
        int total;
        int kept;
        final int[] minute = new int[KEPT_ENTRIES];
        final int[] kind = new int[KEPT_ENTRIES];
        final int[] delegate = new int[KEPT_ENTRIES];
        final int[] number = new int[KEPT_ENTRIES];
        /** The motion that an entry is about, as it was then; of a speech, the one on top. */
        private final Motion[] motions = new Motion[KEPT_ENTRIES];

        void become(Minutes other) {
            total = other.total;
            kept = other.kept;
            System.arraycopy(other.minute, 0, minute, 0, KEPT_ENTRIES);
            System.arraycopy(other.kind, 0, kind, 0, KEPT_ENTRIES);
            System.arraycopy(other.delegate, 0, delegate, 0, KEPT_ENTRIES);
            System.arraycopy(other.number, 0, number, 0, KEPT_ENTRIES);
            for (int i = 0; i < KEPT_ENTRIES; i++) {
                motions[i] = other.motions[i];
            }
        }

        void write(int itsMinute, int itsKind, int itsDelegate, int itsNumber, Motion motion) {
            total++;
            if (kept < KEPT_ENTRIES) {
                minute[kept] = itsMinute;
                kind[kept] = itsKind;
                delegate[kept] = itsDelegate;
                number[kept] = itsNumber;
                motions[kept] = motion;
                kept++;
            }
        }

        /** Makes the changes to a question that the entries tell, in their order, to a text. */
        void replay(int question, Text text) {
            for (int i = 0; i < kept; i++) {
                Motion motion = motions[i];
                if (motion == null || motion.question != question) {
                    continue;
                }
                if (kind[i] == WAS_ADOPTED && motion.degree() == 1) {
                    text.amend(motion.a, motion.b, motion.c);
                } else if (kind[i] == DIVISION) {
                    text.cutTo(number[i]);
                }
            }
        }
    }

    /** The votes: the latest one, that on the latest main motion, and the rows of the first ones. */
    private static final class Ballots {
        int decided, adopted;
        int kept;
        final int[] yes = new int[ROW_LENGTH];
        final int[] no = new int[ROW_LENGTH];
        int lastYes, lastNo, lastNeither, lastKind;
        boolean lastWasAdopted;
        /** The question of the main motion that was decided last, or NO_QUESTION. */
        int mainQuestion = NO_QUESTION;
        /** Those that were present and voted with the side that won on it. */
        private int mainWinners;
        /** Whether a motion to reconsider that decision was made. */
        private boolean mainWasQuestioned;

        void become(Ballots other) {
            decided = other.decided;
            adopted = other.adopted;
            kept = other.kept;
            System.arraycopy(other.yes, 0, yes, 0, ROW_LENGTH);
            System.arraycopy(other.no, 0, no, 0, ROW_LENGTH);
            lastYes = other.lastYes;
            lastNo = other.lastNo;
            lastNeither = other.lastNeither;
            lastKind = other.lastKind;
            lastWasAdopted = other.lastWasAdopted;
            mainQuestion = other.mainQuestion;
            mainWinners = other.mainWinners;
            mainWasQuestioned = other.mainWasQuestioned;
        }

        /** Counts a vote on a motion of a kind; the answer is whether it is adopted. */
        boolean tally(int kind, int yesWeight, int noWeight, int neither) {
            lastYes = yesWeight;
            lastNo = noWeight;
            lastNeither = neither;
            lastKind = kind;
            lastWasAdopted = kind == LIMIT || kind == CLOSE
                ? yesWeight > 0 && yesWeight >= 2 * noWeight
                : yesWeight > noWeight;
            if (kept < ROW_LENGTH) {
                yes[kept] = yesWeight;
                no[kept] = noWeight;
                kept++;
            }
            decided++;
            adopted += lastWasAdopted ? 1 : 0;
            return lastWasAdopted;
        }

        void rememberMain(int question, int winners) {
            mainQuestion = question;
            mainWinners = winners;
            mainWasQuestioned = false;
        }

        void questionMain() {
            mainWasQuestioned = true;
        }

        boolean canReconsider(int mover) {
            return !mainWasQuestioned && House.isIn(mainWinners, mover);
        }
    }

    /** The debate on the pending question, and which motions were rejected during it. */
    private static final class Debate {
        /** What is left of a limit, NOTHING without one. */
        int speechesLeft = NOTHING;
        boolean isClosed;
        /** The set of kinds rejected since the question came up and a motion was adopted. */
        private int rejectedKinds;

        void become(Debate other) {
            speechesLeft = other.speechesLeft;
            isClosed = other.isClosed;
            rejectedKinds = other.rejectedKinds;
        }

        void startAnew() {
            speechesLeft = NOTHING;
            isClosed = false;
            rejectedKinds = 0;
        }

        void close() {
            isClosed = true;
        }

        /** The last speech of a limit ends debate: a new limit alone does not open it again. */
        void useSpeech() {
            if (speechesLeft > 0) {
                speechesLeft--;
                if (speechesLeft == 0) {
                    close();
                }
            }
        }

        void noteAdopted() {
            rejectedKinds = 0;
        }

        void noteRejected(int kind) {
            rejectedKinds |= 1 << kind;
        }

        boolean hasRejected(int kind) {
            return (rejectedKinds >> kind & 1) == 1;
        }
    }

    /** All that a snapshot contains, and what happens to it. */
    private static final class Meeting {
        final House house = new House();
        final Docket docket = new Docket();
        final Shelf shelf = new Shelf();
        final Minutes minutes = new Minutes();
        final Ballots ballots = new Ballots();
        final Debate debate = new Debate();
        final Text buffer = new Text();
        boolean isOpen = true;
        int minute;
        /** The pending motion on top, null if none is pending. */
        Motion top;
        int motionsMade, mainsDropped;
        /** Main motions that came up as a next part or by a reconsideration. */
        int mainsNotMade;

        void become(Meeting other) {
            house.become(other.house);
            docket.become(other.docket);
            shelf.become(other.shelf);
            minutes.become(other.minutes);
            ballots.become(other.ballots);
            debate.become(other.debate);
            buffer.become(other.buffer);
            isOpen = other.isOpen;
            minute = other.minute;
            top = other.top;
            motionsMade = other.motionsMade;
            mainsDropped = other.mainsDropped;
            mainsNotMade = other.mainsNotMade;
        }

        int height() {
            return top == null ? 0 : top.height;
        }

        /** The pending motion at a place from the bottom, null if there is none. */
        Motion motionAt(int place) {
            if (place < 0 || place >= height()) {
                return null;
            }
            Motion motion = top;
            while (motion != null && motion.height > place + 1) {
                motion = motion.below;
            }
            return motion;
        }

        /** The question that is pending, null if none is. */
        Question pendingQuestion() {
            return top == null ? null : docket.at(top.question);
        }

        /** Makes a motion that no rule refuses. */
        void make(int mover, int kind, int a, int b, int c) {
            if (kind == MAIN) {
                bringUpBuffer(mover);
            } else {
                int question = top == null ? NO_QUESTION : top.question;
                top = new Motion(kind, mover, a, b, c, question, top);
            }
            if (kind == RECONSIDER) {
                ballots.questionMain();
            }
            motionsMade++;
            minutes.write(minute, MADE, mover, kind, top);
        }

        private void bringUpBuffer(int mover) {
            int number = docket.size;
            Question question = docket.begin(mover, PENDING);
            if (question != null) {
                question.text.become(buffer);
                question.first.become(buffer);
                buffer.length = 0;
                comeUp(number, question);
            }
        }

        private void comeUp(int number, Question question) {
            question.state = PENDING;
            top = new Motion(MAIN, question.mover, 0, 0, 0, number, null);
            debate.startAnew();
        }

        int hear(int speaker) {
            debate.useSpeech();
            int speeches = house.addSpeech(speaker);
            minutes.write(minute, SPEECH, speaker, speeches, top);
            return speeches;
        }

        /** Divides the question of the main motion on top; the answer is the new question. */
        int splitOff(Motion main, Question question, int position) {
            int number = docket.size;
            Question part = docket.begin(question.mover, PART);
            if (part == null) {
                return FULL;
            }
            part.text.becomeEndOf(question.text, position);
            part.first.become(part.text);
            part.nextPart = question.nextPart;
            question.text.cutTo(position);
            question.nextPart = number;
            minutes.write(minute, DIVISION, main.mover, position, main);
            return number;
        }

        /** Takes up what was put aside; the answer is its question, or NO_QUESTION. */
        int takeFromShelf(int index) {
            Motion taken = shelf.take(index);
            if (taken == null) {
                return NO_QUESTION;
            }
            Motion lowest = taken.lowest();
            resume(taken);
            minutes.write(minute, TAKEN_UP, lowest.mover, lowest.question, lowest);
            return lowest.question;
        }

        private void resume(Motion taken) {
            top = taken;
            Question question = pendingQuestion();
            if (question != null) {
                question.state = PENDING;
                debate.startAnew();
            }
        }

        /** Decides the motion on top; the answer is whether it is adopted. */
        boolean settle(Motion motion, int yes, int no) {
            int yesWeight = house.weightOf(yes & house.present);
            int noWeight = house.weightOf(no & house.present);
            int neither = house.weightOf(house.present & ~(yes | no));
            boolean isAdopted = ballots.tally(motion.kind, yesWeight, noWeight, neither);
            if (motion.kind == MAIN) {
                ballots.rememberMain(motion.question, (isAdopted ? yes : no) & house.present);
            }
            // Ahead of what the decision does, as a recess ends at a later minute.
            minutes.write(minute, isAdopted ? WAS_ADOPTED : WAS_REJECTED, motion.mover,
                motion.kind, motion);
            top = motion.below;
            if (isAdopted) {
                debate.noteAdopted();
                carryOut(motion);
            } else {
                debate.noteRejected(motion.kind);
                if (motion.kind == MAIN) {
                    finish(motion.question, REJECTED);
                }
            }
            return isAdopted;
        }

        /** Does what an adopted motion asks, which is pending no more. */
        private void carryOut(Motion motion) {
            switch (motion.kind) {
                case MAIN:
                    docket.addResolution(motion.question);
                    finish(motion.question, RESOLVED);
                    break;
                case DROP:
                    mainsDropped++;
                    finish(motion.question, DROPPED);
                    break;
                case AMEND:
                    carryOutAmendment(motion);
                    break;
                case REFER:
                    putAside(IN_COMMITTEE, motion.a);
                    break;
                case POSTPONE:
                    putAside(WAITING, motion.a);
                    break;
                case LIMIT:
                    debate.speechesLeft = motion.a;
                    break;
                case CLOSE:
                    debate.close();
                    break;
                case LAY:
                    putAside(ON_TABLE, 0);
                    break;
                case RECESS:
                    minute = Math.min(minute + motion.a, LAST_MINUTE);
                    break;
                case ADJOURN:
                    isOpen = false;
                    putAside(WAITING, minute);
                    break;
                case TAKE_UP:
                    resumeFromTable();
                    break;
                case RECONSIDER:
                    reconsider();
                    break;
                default:
                    break;
            }
        }

        private void carryOutAmendment(Motion amendment) {
            Question question = docket.at(amendment.question);
            if (amendment.degree() == 2 && top != null) {
                top = top.changedBy(amendment);
            } else if (question != null) {
                question.text.amend(amendment.a, amendment.b, amendment.c);
                question.amendments++;
            }
        }

        /** Puts all that is pending aside, if anything is. */
        private void putAside(int state, int place) {
            if (top == null) {
                return;
            }
            Question question = pendingQuestion();
            if (question != null) {
                question.state = state;
                question.place = place;
            }
            shelf.put(top, state, place);
            top = null;
        }

        private void resumeFromTable() {
            Motion taken = shelf.take(shelf.lastOnTable());
            if (taken != null) {
                resume(taken);
            }
        }

        private void reconsider() {
            Question question = docket.at(ballots.mainQuestion);
            if (question != null) {
                docket.removeResolutionOf(ballots.mainQuestion);
                mainsNotMade++;
                comeUp(ballots.mainQuestion, question);
            }
        }

        /** Ends a question, of which nothing is pending then; its next part comes up. */
        private void finish(int number, int state) {
            top = null;
            Question question = docket.at(number);
            if (question == null) {
                return;
            }
            question.state = state;
            int partNumber = question.nextPart;
            Question part = docket.at(partNumber);
            question.nextPart = NOTHING;
            if (part != null) {
                mainsNotMade++;
                comeUp(partNumber, part);
            }
        }
    }

    /** A row of ints, or of floats, which are kept by their bits: none is negative or NaN. */
    private static final class Row {
        /** 0 for a row that is missing. */
        int length;
        boolean isExact;
        final int[] values = new int[ROW_LENGTH];

        void become(Row other) {
            length = other.length;
            isExact = other.isExact;
            System.arraycopy(other.values, 0, values, 0, ROW_LENGTH);
        }

        /** Copies the first n elements of a row; the answer is how many of them differed. */
        int takeFirst(Row other, int n) {
            int changed = 0;
            for (int i = 0; i < n && i < ROW_LENGTH; i++) {
                changed += values[i] == other.values[i] ? 0 : 1;
                values[i] = other.values[i];
            }
            return changed;
        }
    }
}
