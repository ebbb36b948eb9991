import java.util.Arrays;

/** Conditions in rows of tokens: a row is gone through, and what no condition leaves out is put out. */
public final class ConditionText {
    private static final int NAMES = 40;
    private static final int BODIES = 20;
    private static final int BODY_ROOM = 12;
    private static final int INPUT_ROOM = 200;
    private static final int MODES = 4;
    private static final int FILES = 8;
    private static final int OUT_ROOM = 300;
    private static final int STEPS_MOST = 5000;
    private static final int OPEN_MOST = 20;
    private static final int DECISIONS_KEPT = 100;
    private static final int DIGITS_MOST = 9;
    private static final int NUMBER_MOST = 999999999;
    private static final int LAST_IF = 10;

    // Far above what a run can need: with 5000 steps no loop turns even 10001 times.
    private static final int TURNS_MOST = 1000000;

    // The input is held as one more row, behind those of the bodies.
    private static final int INPUT = BODIES;

    private static final int FIRST_NAME = 4096;
    private static final int CODES = 256;
    private static final int CATEGORIES = 16;

    private static final int NONE = 0;
    private static final int SIGN = 1;
    private static final int MACRO = 2;
    private static final int OUTER = 3;
    private static final int NUMBER = 4;
    private static final int IF = 5;
    private static final int ELSE = 6;
    private static final int OR = 7;
    private static final int FI = 8;

    private static final int IF_CODES = 0;
    private static final int IF_CATEGORIES = 1;
    private static final int IF_MEANINGS = 2;
    private static final int IF_NUMBERS = 3;
    private static final int IF_ODD = 4;
    private static final int IF_TRUE = 5;
    private static final int IF_FALSE = 6;
    private static final int IF_CASE = 7;
    private static final int IF_KNOWN = 8;
    private static final int IF_MODE = 9;
    private static final int IF_FILE = 10;

    // Signs of category 12, as they are told.
    private static final int PLUS = 12 * CODES + 43;
    private static final int MINUS = 12 * CODES + 45;
    private static final int DIGIT_0 = 12 * CODES + 48;
    private static final int DIGIT_9 = 12 * CODES + 57;
    private static final int LESS = 12 * CODES + 60;
    private static final int EQUAL = 12 * CODES + 61;
    private static final int GREATER = 12 * CODES + 62;

    private static final int FIRST_BLANK = 10 * CODES;
    private static final int LAST_BLANK = 10 * CODES + CODES - 1;

    private static final int FAULT_ENDED = 1;
    private static final int FAULT_MISPLACED = 2;
    private static final int FAULT_NO_NUMBER = 3;
    private static final int FAULT_NO_RELATION = 4;
    private static final int FAULT_TOO_MANY_OPEN = 5;
    private static final int FAULT_ASKING = 6;
    private static final int FAULT_OUTER = 7;
    private static final int FAULT_TOO_LARGE = 8;
    private static final int FAULT_TOO_LONG = 9;

    private static final int DONE = 1;
    private static final int UNKNOWN = -1;
    private static final int OUTSIDE = -2;
    private static final int NO_ROOM = -4;
    private static final int UNDECIDED = -5;

    private static final int NO_TOKEN = -1;
    private static final int NO_STEP = -2;

    private final Book book;
    private final Runner runner;

    public ConditionText() {
        book = new Book();
        runner = new Runner(book);
    }

    public int meaning(int name, int kind, int v) {
        if (name < 0 || name >= NAMES) {
            return UNKNOWN;
        }
        if ((kind == MACRO || kind == OUTER) && !book.hasBody(v)) {
            return UNKNOWN;
        }
        if (!fitsKind(kind, v)) {
            return OUTSIDE;
        }
        book.define(name, kind, v);
        return DONE;
    }

    public int body() {
        return book.addBody();
    }

    public int token(int body, int t) {
        if (body != -1 && !book.hasBody(body)) {
            return UNKNOWN;
        }
        if (!isToken(t)) {
            return OUTSIDE;
        }
        return book.append(body == -1 ? INPUT : body, t);
    }

    public int clear() {
        return book.emptyInput();
    }

    public int mode(int mode, boolean on) {
        return turn(book.modes, mode, on);
    }

    public int end(int file, boolean on) {
        return turn(book.files, file, on);
    }

    public int run() {
        return runner.goThroughInput();
    }

    public int at(int i) {
        return runner.putOutAt(i);
    }

    public int told(int what) {
        return runner.tell(what);
    }

    public int decided(int i) {
        return runner.decisionOf(i);
    }

    public boolean same(int a, int b) {
        return isToken(a) && isToken(b) && book.meanTheSame(a, b);
    }

    public int count(int what) {
        switch (what) {
            case 0:
                return book.bodyCount;
            case 1:
                return book.sizeOf(INPUT);
            case 2:
                return book.tokensOfBodies();
            default:
                return OUTSIDE;
        }
    }

    private static int turn(boolean[] switches, int i, boolean on) {
        if (i < 0 || i >= switches.length) {
            return OUTSIDE;
        }
        switches[i] = on;
        return DONE;
    }

    private static boolean fitsKind(int kind, int v) {
        switch (kind) {
            case NONE:
            case ELSE:
            case OR:
            case FI:
                return v == 0;
            case SIGN:
                return isSign(v);
            case MACRO:
            case OUTER:
                return v >= 0 && v < BODIES;
            case NUMBER:
                return v >= -NUMBER_MOST && v <= NUMBER_MOST;
            case IF:
                return v >= 0 && v <= LAST_IF;
            default:
                return false;
        }
    }

    private static boolean isSign(int t) {
        return t >= 0 && t < FIRST_NAME;
    }

    private static boolean isName(int t) {
        return t >= FIRST_NAME && t < FIRST_NAME + NAMES;
    }

    private static boolean isToken(int t) {
        return isSign(t) || isName(t);
    }

    private static boolean isDigit(int t) {
        return t >= DIGIT_0 && t <= DIGIT_9;
    }

    private static boolean isRelation(int t) {
        return t == LESS || t == EQUAL || t == GREATER;
    }

    private static boolean isBlank(int t) {
        return t >= FIRST_BLANK && t <= LAST_BLANK;
    }

    private static boolean isMacro(int kind) {
        return kind == MACRO || kind == OUTER;
    }

    private static boolean isMark(int kind) {
        return kind == ELSE || kind == OR || kind == FI;
    }

    /** What stays between runs: meanings, rows of tokens, modes and files. */
    private static final class Book {
        final int[] kinds = new int[NAMES];
        final int[] values = new int[NAMES];
        final int[] cells = new int[BODIES * BODY_ROOM + INPUT_ROOM];
        final int[] sizes = new int[BODIES + 1];
        final boolean[] modes = new boolean[MODES];
        final boolean[] files = new boolean[FILES];
        int bodyCount;

        Book() {
            bodyCount = 0;
        }

        boolean hasBody(int number) {
            return number >= 0 && number < bodyCount;
        }

        int addBody() {
            if (bodyCount >= BODIES) {
                return NO_ROOM;
            }
            bodyCount++;
            return bodyCount - 1;
        }

        void define(int name, int kind, int v) {
            if (name >= 0 && name < NAMES) {
                kinds[name] = kind;
                values[name] = v;
            }
        }

        int sizeOf(int row) {
            return row >= 0 && row < sizes.length ? sizes[row] : 0;
        }

        int append(int row, int t) {
            int size = sizeOf(row);
            int room = row == INPUT ? INPUT_ROOM : BODY_ROOM;
            int cell = row * BODY_ROOM + size;
            if (row < 0 || row > INPUT || size >= room || cell >= cells.length) {
                return NO_ROOM;
            }
            cells[cell] = t;
            sizes[row] = size + 1;
            return size + 1;
        }

        int emptyInput() {
            int size = sizes[INPUT];
            sizes[INPUT] = 0;
            return size;
        }

        int tokensOfBodies() {
            int all = 0;
            for (int i = 0; i < BODIES; i++) {
                all += sizes[i];
            }
            return all;
        }

        int tokenIn(int row, int place) {
            if (row < 0 || row >= sizes.length || place < 0 || place >= sizes[row]) {
                return NO_TOKEN;
            }
            int cell = row * BODY_ROOM + place;
            return cell < cells.length ? cells[cell] : NO_TOKEN;
        }

        /** A sign's kind is SIGN, so that it means the same as a name that stands for it. */
        int kindOf(int t) {
            return isName(t) ? kinds[t - FIRST_NAME] : SIGN;
        }

        int valueOf(int t) {
            return isName(t) ? values[t - FIRST_NAME] : t;
        }

        int codeOf(int t) {
            return kindOf(t) == SIGN ? valueOf(t) % CODES : CODES;
        }

        int categoryOf(int t) {
            return kindOf(t) == SIGN ? valueOf(t) / CODES : CATEGORIES;
        }

        boolean meanTheSame(int a, int b) {
            int kind = kindOf(a);
            if (kind != kindOf(b)) {
                return false;
            }
            if (isMacro(kind)) {
                return haveTheSameTokens(valueOf(a), valueOf(b));
            }
            return valueOf(a) == valueOf(b);
        }

        private boolean haveTheSameTokens(int a, int b) {
            int size = sizeOf(a);
            if (size != sizeOf(b)) {
                return false;
            }
            for (int i = 0; i < size; i++) {
                if (tokenIn(a, i) != tokenIn(b, i)) {
                    return false;
                }
            }
            return true;
        }
    }

    /** Hands out the input's tokens one by one, with the bodies of macros in their place. */
    private static final class Reader {
        private final Book book;
        // One level for the input and one for each step, as each step may go on with a macro.
        private final int[] rows = new int[STEPS_MOST + 1];
        private final int[] places = new int[STEPS_MOST + 1];
        private int top;
        private int kept;
        private int steps;

        Reader(Book book) {
            this.book = book;
            top = -1;
            kept = NO_TOKEN;
            steps = 0;
        }

        void restart() {
            top = -1;
            kept = NO_TOKEN;
            steps = 0;
            goOnWith(INPUT);
        }

        void goOnWith(int row) {
            if (top >= -1 && top < rows.length - 1) {
                top++;
                rows[top] = row;
                places[top] = 0;
            }
        }

        /** The next token; NO_TOKEN at the end; NO_STEP when there is one, but no step is left for it. */
        int look() {
            if (kept != NO_TOKEN) {
                int t = kept;
                kept = NO_TOKEN;
                return t;
            }
            while (top >= 0 && top < rows.length && places[top] >= book.sizeOf(rows[top])) {
                top--;
            }
            if (top < 0 || top >= rows.length) {
                return NO_TOKEN;
            }
            if (steps >= STEPS_MOST) {
                return NO_STEP;
            }
            steps++;
            places[top]++;
            return book.tokenIn(rows[top], places[top] - 1);
        }

        /** The token looked at last stays: it comes again, and its step has been made. */
        void keep(int t) {
            kept = t;
        }

        int stepsMade() {
            return steps;
        }
    }

    /** Goes through the input, and keeps what the latest run put out and has to tell. */
    private static final class Runner {
        private final Book book;
        private final Reader reader;
        private final int[] out = new int[OUT_ROOM];
        private final int[] decisions = new int[DECISIONS_KEPT];
        private final boolean[] isCase = new boolean[OPEN_MOST];
        private final boolean[] hadElse = new boolean[OPEN_MOST];
        private int outSize;
        private int openCount;
        private int opened;
        private int mostOpen;
        private int skipped;
        private int fault;

        Runner(Book book) {
            this.book = book;
            reader = new Reader(book);
            forget();
        }

        int goThroughInput() {
            forget();
            reader.restart();
            for (int turns = 0; turns < TURNS_MOST && fault == 0; turns++) {
                int t = reader.look();
                if (t == NO_TOKEN) {
                    break;
                }
                if (t == NO_STEP) {
                    fail(FAULT_TOO_LONG);
                } else if (!takeIn(t, 0)) {
                    putOut(t);
                }
            }
            if (fault == 0 && openCount > 0) {
                fail(FAULT_ENDED);
            }
            return fault == 0 ? outSize : -fault;
        }

        int putOutAt(int i) {
            return i >= 0 && i < outSize && i < out.length ? out[i] : NO_TOKEN;
        }

        int decisionOf(int i) {
            return i >= 0 && i < decisions.length ? decisions[i] : UNDECIDED;
        }

        int tell(int what) {
            switch (what) {
                case 0:
                    return reader.stepsMade();
                case 1:
                    return outSize;
                case 2:
                    return opened;
                case 3:
                    return mostOpen;
                case 4:
                    return skipped;
                case 5:
                    return openCount;
                case 6:
                    return fault;
                default:
                    return OUTSIDE;
            }
        }

        private void forget() {
            Arrays.fill(decisions, UNDECIDED);
            outSize = 0;
            openCount = 0;
            opened = 0;
            mostOpen = 0;
            skipped = 0;
            fault = 0;
        }

        private void fail(int number) {
            if (fault == 0) {
                fault = number;
            }
        }

        /** A token that nothing has taken in is put out; an ELSE, OR or FI among them has no condition. */
        private void putOut(int t) {
            if (isMark(book.kindOf(t))) {
                fail(FAULT_MISPLACED);
            } else if (outSize < 0 || outSize >= out.length) {
                fail(FAULT_TOO_LONG);
            } else {
                out[outSize] = t;
                outSize++;
            }
        }

        /** A token that must be there: NO_TOKEN, with a fault, if it is not. */
        private int lookForMore() {
            int t = reader.look();
            if (t == NO_STEP) {
                fail(FAULT_TOO_LONG);
                return NO_TOKEN;
            }
            if (t == NO_TOKEN) {
                fail(FAULT_ENDED);
            }
            return t;
        }

        /**
         * Goes on with a macro, opens a condition, or lets an ELSE, OR or FI do its work; false for any other token.
         * The first conditions, as many as base says, are out of reach for ELSE, OR and FI: an asking may only
         * use those that it has opened itself.
         */
        private boolean takeIn(int t, int base) {
            int kind = book.kindOf(t);
            if (isMacro(kind)) {
                reader.goOnWith(book.valueOf(t));
                return true;
            }
            if (kind == IF) {
                open(book.valueOf(t));
                return true;
            }
            if (isMark(kind) && openCount > base) {
                meetMark(kind);
                return true;
            }
            return false;
        }

        // An IF may ask for tokens that hold IFs: this limit on the open ones also bounds the recursion.
        private void open(int which) {
            if (openCount < 0 || openCount >= OPEN_MOST) {
                fail(FAULT_TOO_MANY_OPEN);
                return;
            }
            int order = opened;
            isCase[openCount] = which == IF_CASE;
            hadElse[openCount] = false;
            opened++;
            openCount++;
            mostOpen = Math.max(mostOpen, openCount);
            int base = openCount;
            int answer = ask(which, base);
            if (openCount > base) {
                fail(FAULT_ASKING);
            }
            if (fault == 0) {
                decide(which, order, answer);
            }
        }

        private void decide(int which, int order, int answer) {
            boolean cases = which == IF_CASE;
            if (order >= 0 && order < decisions.length) {
                decisions[order] = !cases ? answer : answer < 0 ? -1 : answer + 2;
            }
            boolean firstPartIsLeftOut = cases ? answer != 0 : answer == 0;
            if (firstPartIsLeftOut) {
                skip(cases ? answer : 0, true);
            }
        }

        private void meetMark(int kind) {
            if (!isInPlace(kind)) {
                fail(FAULT_MISPLACED);
                return;
            }
            passMark(kind);
            if (kind != FI) {
                skip(0, false);
            }
        }

        private boolean isInPlace(int kind) {
            int last = openCount - 1;
            if (last < 0 || last >= OPEN_MOST) {
                return false;
            }
            if (kind == OR) {
                return isCase[last] && !hadElse[last];
            }
            return kind == FI || !hadElse[last];
        }

        private void passMark(int kind) {
            int last = openCount - 1;
            if (last < 0 || last >= OPEN_MOST) {
                return;
            }
            if (kind == FI) {
                openCount = last;
            } else if (kind == ELSE) {
                hadElse[last] = true;
            }
        }

        /**
         * Skips up to the part with a number above 0, or to what is behind the ELSE (if that is wanted),
         * and in any case no farther than to the FI of the condition that was opened last.
         */
        private void skip(int part, boolean wantsElse) {
            int within = 0;
            int number = 0;
            for (int turns = 0; turns < TURNS_MOST; turns++) {
                int t = lookForMore();
                if (t == NO_TOKEN) {
                    return;
                }
                int kind = book.kindOf(t);
                if (within == 0 && isMark(kind)) {
                    if (!isInPlace(kind)) {
                        fail(FAULT_MISPLACED);
                        return;
                    }
                    passMark(kind);
                    number += kind == OR ? 1 : 0;
                    if (kind == FI || kind == ELSE && wantsElse || kind == OR && number == part) {
                        return;
                    }
                } else if (kind == OUTER) {
                    fail(FAULT_OUTER);
                    return;
                } else {
                    skipped++;
                    within += kind == IF ? 1 : kind == FI ? -1 : 0;
                }
            }
        }

        /** What the IF asks for: a case's number, otherwise 1 for TRUE and 0 for FALSE. */
        private int ask(int which, int base) {
            switch (which) {
                case IF_CODES:
                case IF_CATEGORIES:
                    return compareSigns(which == IF_CODES, base);
                case IF_MEANINGS:
                    return compareMeanings();
                case IF_NUMBERS:
                    return compareNumbers(base);
                case IF_ODD:
                    return readNumber(base) & 1;
                case IF_TRUE:
                    return 1;
                case IF_FALSE:
                    return 0;
                case IF_CASE:
                    return readNumber(base);
                case IF_KNOWN:
                    return askWhetherKnown();
                case IF_MODE:
                    return askWhetherOn(book.modes, base);
                case IF_FILE:
                    return askWhetherOn(book.files, base);
                default:
                    return 0;
            }
        }

        private int compareSigns(boolean byCode, int base) {
            int a = readSign(base);
            if (fault != 0) {
                return 0;
            }
            int b = readSign(base);
            if (fault != 0) {
                return 0;
            }
            boolean alike = byCode ? book.codeOf(a) == book.codeOf(b) : book.categoryOf(a) == book.categoryOf(b);
            return alike ? 1 : 0;
        }

        private int compareMeanings() {
            int a = lookForMore();
            if (fault != 0) {
                return 0;
            }
            int b = lookForMore();
            if (fault != 0) {
                return 0;
            }
            return book.meanTheSame(a, b) ? 1 : 0;
        }

        private int compareNumbers(int base) {
            int a = readNumber(base);
            if (fault != 0) {
                return 0;
            }
            int relation = readSign(base);
            if (fault != 0) {
                return 0;
            }
            if (!isRelation(relation)) {
                fail(FAULT_NO_RELATION);
                return 0;
            }
            int b = readNumber(base);
            boolean holds = relation == LESS ? a < b : relation == EQUAL ? a == b : a > b;
            return holds ? 1 : 0;
        }

        private int askWhetherKnown() {
            int t = lookForMore();
            return fault == 0 && book.kindOf(t) != NONE ? 1 : 0;
        }

        private int askWhetherOn(boolean[] switches, int base) {
            int i = readNumber(base);
            if (fault != 0) {
                return 0;
            }
            if (i < 0 || i >= switches.length) {
                fail(FAULT_TOO_LARGE);
                return 0;
            }
            return switches[i] ? 1 : 0;
        }

        /** A token gone on with, where no number is asked for: ELSE, OR and FI are faults there. */
        private int readSign(int base) {
            int t = readGoneOnWith(base);
            if (fault == 0 && isMark(book.kindOf(t))) {
                fail(FAULT_ASKING);
            }
            return t;
        }

        /** The next token that is no macro and no IF; an ELSE, OR or FI if it belongs to nothing of this asking. */
        private int readGoneOnWith(int base) {
            for (int turns = 0; turns < TURNS_MOST && fault == 0; turns++) {
                int t = lookForMore();
                if (t == NO_TOKEN || !takeIn(t, base)) {
                    return t;
                }
            }
            return NO_TOKEN;
        }

        private int readNumber(int base) {
            boolean turned = false;
            int t = readGoneOnWith(base);
            for (int turns = 0; turns < TURNS_MOST && (t == PLUS || t == MINUS); turns++) {
                turned = turned != (t == MINUS);
                t = readGoneOnWith(base);
            }
            if (fault != 0) {
                return 0;
            }
            int n = 0;
            if (isDigit(t)) {
                n = readDigits(t, base);
            } else if (book.kindOf(t) == NUMBER) {
                n = book.valueOf(t);
            } else {
                fail(FAULT_NO_NUMBER);
            }
            return turned ? -n : n;
        }

        private int readDigits(int first, int base) {
            int n = 0;
            int t = first;
            for (int digits = 0; digits < DIGITS_MOST; digits++) {
                n = n * 10 + (t - DIGIT_0);
                t = readGoneOnWith(base);
                if (fault != 0) {
                    return 0;
                }
                if (!isDigit(t)) {
                    if (!isBlank(t)) {
                        reader.keep(t);
                    }
                    return n;
                }
            }
            fail(FAULT_TOO_LARGE);
            return 0;
        }
    }
}
