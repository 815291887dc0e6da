/**
 * Two towers that face one another across a river: which window is on, and behind which night.
 * The document tells what every call does; here stands how. Every row is made once, in a
 * constructor, since all the calls of a run share one room.
 */
public final class WhichWindow {
    public static final int BAD = -1, NOT = -2, FULL = -3, STATE = -5, VOID = -2000000000;

    private static final int NOTHING_THERE = -11, OTHER_KIND = -12, NO_PLACE = -13, NO_SIZE = -14;

    private static final int WINDOWS = 24, TOWER = 12, ROWS = 6, LETTERS = 16;
    private static final int TOWER_BITS = 0xFFF, WINDOW_BITS = 0xFFFFFF;
    private static final int FAR = 500, NEAR = 60, GAME_STEPS = 20, LAST_STEP = 9999;
    private static final int SHELVES = 6;

    private final Towers towers = new Towers();
    private final Changes changes = new Changes();
    private final Deeds deeds = new Deeds();
    private final Thought thought = new Thought();
    private final Seen seen = new Seen();
    private final Lamps lamps = new Lamps();
    private final Shelf[] shelves = new Shelf[SHELVES];

    public WhichWindow() {
        for (int i = 0; i < SHELVES; i++) {
            shelves[i] = new Shelf();
        }
    }

    // ---- habits

    public int mend(int number, int what, int v) {
        if (!towers.isHabit(number, what) || !towers.mayBe(number, what, v)) {
            return BAD;
        }
        return change(number, what, v);
    }

    public int of(int number, int what) {
        if (what == 10 && isWindow(number)) {
            return bitOf(towers.shown(), number);
        }
        if (what == 11 && number == 0) {
            return towers.step;
        }
        return towers.isHabit(number, what) ? towers.told(number, what) : BAD;
    }

    public int habits(int shelf, int i, int wn) {
        int window = wn / 100;
        int most = wn % 100;
        if (!isShelf(shelf) || wn < 0 || !isWindow(window) || most < 1 || most > WINDOWS) {
            return BAD;
        }
        Shelf from = shelves[shelf];
        if (from.isEmpty()) {
            return 0;
        }
        return from.isRowOf(Shelf.BYTES) ? habitsByThrees(from, i, window, most) : OTHER_KIND;
    }

    public int feed(int letter) {
        return letter < 0 || letter > 255 ? BAD : towers.book.feed(letter);
    }

    public int law() {
        return towers.book.takeTape();
    }

    // ---- nights in thought

    public int on(int n, int window) {
        if (!isWithin(n, FAR) || !isWindow(window)) {
            return BAD;
        }
        return bitOf(towers.behind(towers.lit, n), window);
    }

    public int letter(int n, int row) {
        if (!isWithin(n, FAR) || !isRow(row)) {
            return BAD;
        }
        return letterOf(towers.behind(towers.lit, n), row);
    }

    public int all(int n, int what) {
        if (!isWithin(n, FAR) || !isWithin(what, 1)) {
            return BAD;
        }
        int bits = towers.behind(towers.lit, n);
        return what == 0 ? bits : Integer.bitCount(bits);
    }

    public int round(int what) {
        return isWithin(what, 1) ? thought.roundOf(towers, what) : BAD;
    }

    public int dark() {
        return thought.firstDark(towers);
    }

    public int comes(int rl) {
        if (!isWord(rl)) {
            return BAD;
        }
        return thought.firstSaid(towers, rl, FAR, towers.curtains);
    }

    public int set(int rl, int n, int what) {
        if (!isWord(rl) || !isWithin(n, NEAR) || !isWithin(what, 1)) {
            return BAD;
        }
        int bits = thought.fewestFor(towers, rl, n);
        return bits == NOT || what == 1 ? bits : Integer.bitCount(bits);
    }

    public int curtain(int rl) {
        return isWord(rl) ? thought.hidingCurtain(towers, rl) : BAD;
    }

    public int changesIt(int window, int n) {
        if (!isWindow(window) || !isWithin(n, NEAR)) {
            return BAD;
        }
        return thought.changedBy(towers, window, n);
    }

    public int movedBy(int window, int n) {
        if (!isWindow(window) || !isWithin(n, NEAR)) {
            return BAD;
        }
        return thought.moversOf(towers, window, n);
    }

    public int canSay(int row, int n) {
        if (!isRow(row) || !isWithin(n, NEAR)) {
            return BAD;
        }
        return thought.sayable(towers, row, n);
    }

    public int together(int ab, int n) {
        int one = ab / 10;
        int other = ab % 10;
        if (ab < 0 || !isRow(one) || !isRow(other) || one == other || !isWithin(n, NEAR)) {
            return BAD;
        }
        return thought.alike(towers, one, other, n);
    }

    // ---- nights seen, a game, draws

    public int judge(int shelf) {
        if (!isShelf(shelf)) {
            return BAD;
        }
        int refusal = seen.take(shelves[shelf]);
        return refusal != 0 ? refusal : seen.firstWrong(towers);
    }

    public int habit(int shelf, int window, int what) {
        if (!isShelf(shelf) || !isWindow(window) || !isWithin(what, 1)) {
            return BAD;
        }
        int refusal = seen.take(shelves[shelf]);
        if (refusal != 0) {
            return refusal;
        }
        seen.fit(window, towers.step);
        return what == 0 ? seen.howManyFit() : seen.firstFit();
    }

    public int tries(int shelf, int window, int what) {
        if (!isShelf(shelf) || !isWindow(window) || !isWithin(what, 1)) {
            return BAD;
        }
        int refusal = seen.take(shelves[shelf]);
        return refusal != 0 ? refusal : seen.nextTry(window, towers.step, what);
    }

    public int first(int shelf, int window) {
        if (!isShelf(shelf) || !isWindow(window)) {
            return BAD;
        }
        int refusal = seen.take(shelves[shelf]);
        return refusal != 0 ? refusal : seen.firstChange(window);
    }

    public int game(int n, int what) {
        if (!isWithin(n, GAME_STEPS) || !isWithin(what, 2)) {
            return BAD;
        }
        return thought.played(towers, n, what);
    }

    public int drawn(int seed, int nm, int what) {
        int nights = nm / 100;
        int steps = nm % 100;
        boolean isSo = nm >= 0 && nights >= 1 && nights <= 20 && steps >= 1 && steps <= NEAR;
        if (!isSo || !isWithin(what, 1)) {
            return BAD;
        }
        return thought.byDraws(towers, seed, nights, steps, what);
    }

    // ---- in deed

    public int lamp(int window) {
        return isWindow(window) ? deeds.switchOver(towers, window) : BAD;
    }

    public int pass(int n) {
        if (n < 1 || n > FAR) {
            return BAD;
        }
        return towers.step + n > LAST_STEP ? STATE : deeds.passSteps(towers, n);
    }

    public int cut() {
        return deeds.cutPower(towers);
    }

    public int led(int what) {
        return isWithin(what, 4) ? deeds.told(towers, what) : BAD;
    }

    public int image() {
        return deeds.keepImage(towers);
    }

    public int back() {
        return deeds.layBack(towers);
    }

    public int undo() {
        return changes.takeBack(towers) ? changes.howManyDone() : STATE;
    }

    public int redo() {
        return changes.doAgain(towers) ? changes.howManyUndone() : STATE;
    }

    // ---- acts, shelves

    public int body(int kind) {
        return isWithin(kind, Lamps.KINDS - 1) ? lamps.keepOne(kind) : BAD;
    }

    public int act(int body, int act, int x) {
        return lamps.actOf(body, act, x);
    }

    public int trace(int i) {
        return lamps.traceAt(i);
    }

    public int keep(int shelf, int body) {
        if (!isShelf(shelf) || (body != -1 && !lamps.isLamp(body))) {
            return BAD;
        }
        shelves[shelf].holdLamp(body);
        return 1;
    }

    public int row(int shelf, int sort, int n) {
        if (!isShelf(shelf) || !isWithin(sort, Shelf.BOOLEANS) || n > Shelf.MOST) {
            return BAD;
        }
        if (n < 0) {
            return NO_SIZE;
        }
        shelves[shelf].holdRow(sort, n);
        return 1;
    }

    public int put(int shelf, int i, long v) {
        if (!isShelf(shelf)) {
            return BAD;
        }
        int refusal = shelves[shelf].refusalAt(i);
        if (refusal != 0) {
            return refusal;
        }
        shelves[shelf].putAt(i, v);
        return 1;
    }

    public long element(int shelf, int i) {
        if (!isShelf(shelf) || shelves[shelf].refusalAt(i) != 0) {
            return Long.MIN_VALUE;
        }
        return shelves[shelf].at(i);
    }

    public int shift(int shelf, int i, int other, int j, int n) {
        if (!isShelf(shelf) || !isShelf(other)) {
            return BAD;
        }
        return shelves[shelf].copyTo(i, shelves[other], j, n);
    }

    public int taken(int shelf, int k) {
        if (!isShelf(shelf) || !isWithin(k, Lamps.KINDS - 1)) {
            return BAD;
        }
        Shelf from = shelves[shelf];
        if (from.isEmpty()) {
            return NOTHING_THERE;
        }
        return lamps.isUnder(from.lamp, k) ? lamps.kindOf(from.lamp) : OTHER_KIND;
    }

    public int count(int what) {
        switch (what) {
            case 0:
                return Integer.bitCount(towers.shown());
            case 1:
                return towers.book.size;
            case 2:
                return changes.howManyDone();
            case 3:
                return lamps.count;
            case 4:
                return lamps.ran;
            default:
                return BAD;
        }
    }

    private int change(int number, int what, int v) {
        int was = towers.told(number, what);
        if (was != v) {
            changes.record(number, what, was, v);
            towers.tell(number, what, v);
        }
        return was;
    }

    /** A three is told whole or not at all: it ends ahead of the first one that is not so. */
    private int habitsByThrees(Shelf from, int i, int window, int most) {
        int place = i;
        for (int done = 0; done < most; done++) {
            if (!isThree(from, place, window + done)) {
                return done;
            }
            for (int what = Towers.KIND; what <= Towers.ALSO; what++, place++) {
                change(window + done, what, (int) from.at(place));
            }
        }
        return most;
    }

    /** Whether a row has, from a place on, a KIND, SEES and ALSO that a window may have. */
    private boolean isThree(Shelf from, int place, int window) {
        for (int what = Towers.KIND; what <= Towers.ALSO; what++) {
            boolean isThere = isWindow(window) && from.refusalAt(place + what) == 0;
            if (!isThere || !towers.mayBe(window, what, (int) from.at(place + what))) {
                return false;
            }
        }
        return true;
    }

    private static boolean isWithin(int number, int most) {
        return number >= 0 && number <= most;
    }

    private static boolean isWindow(int number) {
        return isWithin(number, WINDOWS - 1);
    }

    private static boolean isRow(int number) {
        return isWithin(number, ROWS - 1);
    }

    private static boolean isShelf(int number) {
        return isWithin(number, SHELVES - 1);
    }

    /** Whether 100 times a row and a letter is told. */
    private static boolean isWord(int rl) {
        return rl >= 0 && isRow(rl / 100) && rl % 100 < LETTERS;
    }

    private static int bitOf(int bits, int window) {
        return bits >>> window & 1;
    }

    private static int letterOf(int bits, int row) {
        return bits >>> 4 * row & 15;
    }

    private static boolean says(int bits, int rl) {
        return letterOf(bits, rl / 100) == rl % 100;
    }

    /** Whether a clock that goes by every steps puts its window on at step s. */
    private static boolean isTime(int s, int every, int at) {
        return every > 0 && s % every == at;
    }

    /** What is on in the tower across from a window, as bits 0 to 11. */
    private static int acrossFrom(int bits, int window) {
        return window < TOWER ? bits >>> TOWER & TOWER_BITS : bits & TOWER_BITS;
    }

    /** A law told as a text, kept as deeds on a stack of numbers, the operands ahead of each sign. */
    private static final class Law {
        static final int OTHERS = 3, STEP = 4, WINDOW = 5;

        private static final int MOST = 128, OPEN = 6, DIGITS = 4, NAMES = 6;
        private static final int COMPARED = 2, OPERAND = 5;
        private static final int NUMBER = '0', NAME = 'a', NEGATED = '~';

        private final int[] deeds = new int[MOST];
        private final int[] tells = new int[MOST];
        private final int[] stack = new int[MOST];
        private final boolean[] named = new boolean[NAMES];
        private int[] text = new int[0];
        private int length, size, at, open, fault, top;

        boolean names(int name) {
            return name >= 0 && name < NAMES && named[name];
        }

        /** Reads a text of so many bytes: -1, or its fault. */
        int read(int[] bytes, int many) {
            text = bytes;
            size = many < bytes.length ? many : bytes.length;
            at = 0;
            open = 0;
            fault = -1;
            length = 0;
            for (int i = 0; i < NAMES; i++) {
                named[i] = false;
            }
            readLine();
            for (int i = 0; i < MOST && fault < 0 && at < size; i++) {
                if (here() == ';') {
                    at++;
                    readLine();
                } else {
                    refuse();
                }
            }
            return fault;
        }

        private int here() {
            return at >= 0 && at < size && at < text.length ? text[at] : -1;
        }

        /** The first byte that is not so is the fault; what is refused behind it is none. */
        private void refuse() {
            if (fault < 0) {
                fault = at;
            }
        }

        private void write(int deed, int told) {
            if (length < MOST) {
                deeds[length] = deed;
                tells[length] = told;
                length++;
            }
        }

        private void readLine() {
            readLevel(0);
            if (fault < 0 && here() == '?') {
                at++;
                write('?', 0);
                readLevel(0);
            }
            write(';', 0);
        }

        /** E, A, B, S and P are levels 0 to 4, each a chain of the next; level 2 has one sign at most. */
        private void readLevel(int level) {
            if (level >= OPERAND) {
                readOperand();
                return;
            }
            readLevel(level + 1);
            int most = level == COMPARED ? 1 : MOST;
            for (int i = 0; i < most && fault < 0 && levelOf(here()) == level; i++) {
                int sign = here();
                at++;
                readLevel(level + 1);
                write(sign, 0);
            }
        }

        private static int levelOf(int sign) {
            switch (sign) {
                case '|':
                    return 0;
                case '&':
                    return 1;
                case '<':
                case '=':
                case '>':
                    return COMPARED;
                case '+':
                case '-':
                    return 3;
                case '*':
                case '/':
                case '%':
                    return 4;
                default:
                    return -1;
            }
        }

        private static int nameOf(int sign) {
            switch (sign) {
                case 'a':
                    return 0;
                case 'b':
                    return 1;
                case 'm':
                    return 2;
                case 'n':
                    return OTHERS;
                case 's':
                    return STEP;
                case 'k':
                    return WINDOW;
                default:
                    return -1;
            }
        }

        private static boolean isDigit(int sign) {
            return sign >= '0' && sign <= '9';
        }

        private void readOperand() {
            int sign = here();
            int name = nameOf(sign);
            if (isDigit(sign)) {
                readNumber();
            } else if (name >= 0 && name < NAMES) {
                at++;
                named[name] = true;
                write(NAME, name);
            } else if (open < OPEN && (sign == '(' || sign == '!' || sign == '-')) {
                readOpened(sign);
            } else {
                refuse();
            }
        }

        private void readNumber() {
            int number = 0;
            for (int i = 0; i < DIGITS && isDigit(here()); i++) {
                number = number * 10 + here() - '0';
                at++;
            }
            write(NUMBER, number);
        }

        private void readOpened(int sign) {
            at++;
            open++;
            if (sign != '(') {
                readOperand();
                write(sign == '!' ? '!' : NEGATED, 0);
            } else {
                readLevel(0);
                if (here() == ')' && fault < 0) {
                    at++;
                } else {
                    refuse();
                }
            }
            open--;
        }

        /** What the law gives, by its names' numbers: the first line that counts, or 0. */
        int value(int[] told) {
            top = 0;
            boolean passing = false;
            for (int i = 0; i < length && i < MOST; i++) {
                int deed = deeds[i];
                if (passing) {
                    passing = deed != ';';
                } else if (deed == ';') {
                    return pop();
                } else if (deed == '?') {
                    passing = pop() == 0;
                } else if (deed == NUMBER) {
                    push(tells[i]);
                } else if (deed == NAME) {
                    push(tells[i] >= 0 && tells[i] < told.length ? told[tells[i]] : 0);
                } else if (deed == '!') {
                    push(pop() == 0 ? 1 : 0);
                } else if (deed == NEGATED) {
                    push(-pop());
                } else {
                    int right = pop();
                    push(joined(deed, pop(), right));
                }
            }
            return 0;
        }

        private void push(int number) {
            if (top >= 0 && top < MOST) {
                stack[top] = number;
                top++;
            }
        }

        private int pop() {
            if (top < 1 || top > MOST) {
                return 0;
            }
            top--;
            return stack[top];
        }

        private static int joined(int sign, int left, int right) {
            switch (sign) {
                case '|':
                    return left != 0 || right != 0 ? 1 : 0;
                case '&':
                    return left != 0 && right != 0 ? 1 : 0;
                case '<':
                    return left < right ? 1 : 0;
                case '=':
                    return left == right ? 1 : 0;
                case '>':
                    return left > right ? 1 : 0;
                case '+':
                    return left + right;
                case '-':
                    return left - right;
                case '*':
                    return left * right;
                case '/':
                    return right == 0 ? 0 : left / right;
                default:
                    return right == 0 ? 0 : left % right;
            }
        }
    }

    /** The tape, the law that counts, and what this law has been asked before. */
    private static final class Book {
        private static final int MOST = 120, PAGES = 64, COUNTS = TOWER + 1;
        private static final int PAGE = WINDOWS * COUNTS;
        private static final int[] FIRST_LAW = {'a', '+', 'b', '-', 'm'};

        private final int[] tape = new int[MOST];
        private int size;
        private Law inForce = new Law();
        private Law draft = new Law();
        private final int[] told = new int[6];
        // A law may be long and is asked for thousands of nights in one call, so each answer is kept:
        // a page a step, a place a window and count; by bits 0 to 7 of a, b, m known, by 8 to 15 on.
        private final int[] known = new int[PAGES * PAGE];
        private final int[] stepOfPage = new int[PAGES];

        Book() {
            inForce.read(FIRST_LAW, FIRST_LAW.length);
            forget();
        }

        int feed(int letter) {
            if (size >= MOST) {
                return FULL;
            }
            tape[size] = letter;
            size++;
            return size;
        }

        int takeTape() {
            int fault = draft.read(tape, size);
            size = 0;
            if (fault >= 0) {
                return -100 - fault;
            }
            Law old = inForce;
            inForce = draft;
            draft = old;
            forget();
            return 1;
        }

        private void forget() {
            for (int i = 0; i < PAGES; i++) {
                stepOfPage[i] = -1;
            }
        }

        /** Whether the law puts a window on (1, 0); abm: a, and 2 times b, and 4 times m. */
        int putsOn(int window, int abm, int others, int step) {
            int page = openPage(inForce.names(Law.STEP) ? step : 0);
            int place = page * PAGE
                    + (inForce.names(Law.WINDOW) ? window * COUNTS : 0)
                    + (inForce.names(Law.OTHERS) ? others : 0);
            if (place < 0 || place >= known.length) {
                return 0;
            }
            int mark = 1 << (abm & 7);
            if ((known[place] & mark) == 0) {
                told[0] = abm & 1;
                told[1] = abm >>> 1 & 1;
                told[2] = abm >>> 2 & 1;
                told[Law.OTHERS] = others;
                told[Law.STEP] = step;
                told[Law.WINDOW] = window;
                known[place] |= inForce.value(told) > 0 ? mark | mark << 8 : mark;
            }
            return (known[place] & mark << 8) != 0 ? 1 : 0;
        }

        private int openPage(int step) {
            int page = step & PAGES - 1;
            if (stepOfPage[page] != step) {
                stepOfPage[page] = step;
                for (int i = page * PAGE; i < (page + 1) * PAGE && i < known.length; i++) {
                    known[i] = 0;
                }
            }
            return page;
        }
    }

    /** The towers as they are now, the habits in them, and the step that these make. */
    private static final class Towers {
        static final int KIND = 0, SEES = 1, ALSO = 2, EVERY = 3, AT = 4, CURTAIN = 5, YAWNS = 6;
        static final int CLOCK = 5, BY_LAW = 6;

        final Book book = new Book();
        private final int[][] habits = new int[CURTAIN][WINDOWS];
        private int curtains, yawns;
        /** What is on but for the curtains: one that is taken away ahead of a step shows it again. */
        private int lit;
        private int step;

        Towers() {
            for (int w = 0; w < WINDOWS; w++) {
                int across = w < TOWER ? w + TOWER : w - TOWER;
                habits[SEES][w] = across;
                habits[ALSO][w] = across;
                habits[EVERY][w] = 2;
            }
        }

        boolean isHabit(int number, int what) {
            return what == YAWNS ? number == 0 : isWithin(what, CURTAIN) && isWindow(number);
        }

        boolean mayBe(int number, int what, int v) {
            switch (what) {
                case KIND:
                    return isWithin(v, BY_LAW);
                case SEES:
                case ALSO:
                    return isWindow(v) && v < TOWER != number < TOWER;
                case EVERY:
                    return v >= 1 && v <= 6;
                case AT:
                    return isWithin(v, 5);
                case CURTAIN:
                    return isWithin(v, 1);
                case YAWNS:
                    return isWithin(v, 12);
                default:
                    return false;
            }
        }

        int told(int number, int what) {
            if (!isHabit(number, what)) {
                return BAD;
            }
            if (what == YAWNS) {
                return yawns;
            }
            return what == CURTAIN ? bitOf(curtains, number) : habits[what][number];
        }

        void tell(int number, int what, int v) {
            if (!isHabit(number, what)) {
                return;
            }
            if (what == YAWNS) {
                yawns = v;
            } else if (what == CURTAIN) {
                curtains = curtains & ~(1 << number) | v << number;
            } else {
                habits[what][number] = v;
            }
        }

        int shown() {
            return lit & ~curtains;
        }

        /** Whether a window goes by the clock or the law, so that the step's number counts. */
        boolean goesByStep() {
            for (int w = 0; w < WINDOWS; w++) {
                if (habits[KIND][w] == CLOCK || habits[KIND][w] == BY_LAW) {
                    return true;
                }
            }
            return false;
        }

        /** What is on behind n steps from now, if bits were on now. */
        int behind(int bits, int n) {
            int on = bits & ~curtains;
            for (int i = 0; i < n; i++) {
                on = next(on, i, curtains);
            }
            return on;
        }

        /** What is on behind one step more, if bits are on so many steps from now, under such curtains. */
        int next(int bits, int ahead, int hidden) {
            int was = bits & ~hidden;
            int s = step + ahead;
            int on = 0;
            for (int w = 0; w < WINDOWS; w++) {
                int a = bitOf(was, habits[SEES][w]);
                int b = bitOf(was, habits[ALSO][w]);
                int m = bitOf(was, w);
                int is;
                switch (habits[KIND][w]) {
                    case 0:
                        is = m;
                        break;
                    case 1:
                        is = a;
                        break;
                    case 2:
                        is = 1 - a;
                        break;
                    case 3:
                        is = a & b;
                        break;
                    case 4:
                        is = a ^ b;
                        break;
                    case CLOCK:
                        is = isTime(s, habits[EVERY][w], habits[AT][w]) ? 1 : 0;
                        break;
                    default:
                        int others = Integer.bitCount(acrossFrom(was, w));
                        is = book.putsOn(w, a | b << 1 | m << 2, others, s);
                        break;
                }
                on |= is << w;
            }
            return on & ~hidden;
        }
    }

    /** Nights in thought: what would be from now on; nothing of the towers changes by it. */
    private static final class Thought {
        private static final int HIDDEN_STEPS = 100, NEVER_ANYWAY = -3;
        private static final int NONE_FIRST = 12, NONE_OTHER = 24;

        private final int[] nights = new int[FAR + 1];

        /** The first count (what 0) or the length (1) of the round. */
        int roundOf(Towers t, int what) {
            nights[0] = t.shown();
            for (int i = 0; i < FAR; i++) {
                nights[i + 1] = t.next(nights[i], i, t.curtains);
            }
            int by = t.goesByStep() ? 60 : 1;
            for (int i = 0; i <= FAR; i++) {
                for (int j = i + by; j <= FAR; j += by) {
                    if (nights[i] == nights[j]) {
                        return what == 0 ? i : j - i;
                    }
                }
            }
            return NOT;
        }

        int firstDark(Towers t) {
            int on = t.shown();
            for (int i = 0; i <= FAR; i++) {
                if (on == 0) {
                    return i;
                }
                on = t.next(on, i, t.curtains);
            }
            return NOT;
        }

        int firstSaid(Towers t, int rl, int most, int hidden) {
            int on = t.lit & ~hidden;
            for (int i = 0; i <= most; i++) {
                if (says(on, rl)) {
                    return i;
                }
                on = t.next(on, i, hidden);
            }
            return NOT;
        }

        int hidingCurtain(Towers t, int rl) {
            if (firstSaid(t, rl, HIDDEN_STEPS, t.curtains) == NOT) {
                return NEVER_ANYWAY;
            }
            for (int w = 0; w < WINDOWS; w++) {
                if (firstSaid(t, rl, HIDDEN_STEPS, t.curtains | 1 << w) == NOT) {
                    return w;
                }
            }
            return NOT;
        }

        /** The bits of the fewest windows to switch, or NOT. */
        int fewestFor(Towers t, int rl, int n) {
            int now = t.shown();
            if (says(t.behind(now, n), rl)) {
                return 0;
            }
            for (int w = 0; w < WINDOWS; w++) {
                if (says(t.behind(now ^ 1 << w, n), rl)) {
                    return 1 << w;
                }
            }
            // The higher window outside, so that the bits of the pairs rise.
            for (int high = 1; high < WINDOWS; high++) {
                for (int low = 0; low < high; low++) {
                    int two = 1 << high | 1 << low;
                    if (says(t.behind(now ^ two, n), rl)) {
                        return two;
                    }
                }
            }
            return NOT;
        }

        int changedBy(Towers t, int window, int n) {
            return t.behind(t.shown(), n) ^ t.behind(t.shown() ^ 1 << window, n);
        }

        int moversOf(Towers t, int window, int n) {
            int as = t.behind(t.shown(), n);
            int movers = 0;
            for (int w = 0; w < WINDOWS; w++) {
                int otherwise = as ^ t.behind(t.shown() ^ 1 << w, n);
                movers |= bitOf(otherwise, window) << w;
            }
            return movers;
        }

        int sayable(Towers t, int row, int n) {
            int letters = lettersFrom(t, t.shown(), row, n);
            for (int w = 0; w < WINDOWS; w++) {
                letters |= lettersFrom(t, t.shown() ^ 1 << w, row, n);
            }
            return letters;
        }

        private int lettersFrom(Towers t, int bits, int row, int n) {
            int on = t.behind(bits, 0);
            int letters = 1 << letterOf(on, row);
            for (int i = 0; i < n; i++) {
                on = t.next(on, i, t.curtains);
                letters |= 1 << letterOf(on, row);
            }
            return letters;
        }

        int alike(Towers t, int one, int other, int n) {
            int on = t.shown();
            int many = 0;
            for (int i = 0; i <= n; i++) {
                if (letterOf(on, one) == letterOf(on, other)) {
                    many++;
                }
                on = t.next(on, i, t.curtains);
            }
            return many;
        }

        /** The game's first deed (what 0), the other one's (1), how many are on then (2). */
        int played(Towers t, int n, int what) {
            int best = -1;
            int first = 0;
            int second = 0;
            for (int one = 0; one <= NONE_FIRST; one++) {
                int bits = one == NONE_FIRST ? t.shown() : t.shown() ^ 1 << one;
                int least = WINDOWS + 1;
                int answer = NONE_OTHER;
                for (int other = TOWER; other <= NONE_OTHER; other++) {
                    int both = other == NONE_OTHER ? bits : bits ^ 1 << other;
                    int many = Integer.bitCount(t.behind(both, n));
                    if (many < least) {
                        least = many;
                        answer = other;
                    }
                }
                if (least > best) {
                    best = least;
                    first = one;
                    second = answer;
                }
            }
            return what == 0 ? first : what == 1 ? second : best;
        }

        /** How many are on at the nights' ends (what 0), how many nights end dark (1). */
        int byDraws(Towers t, int seed, int many, int steps, int what) {
            int z = seed;
            int ends = 0;
            int darkOnes = 0;
            for (int night = 0; night < many; night++) {
                int on = t.shown();
                for (int i = 0; i < steps; i++) {
                    z = z * 1103515245 + 12345;
                    if ((z >>> 16) % 12 < t.yawns) {
                        on ^= 1 << (z >>> 8) % WINDOWS;
                    }
                    on = t.next(on, i, t.curtains);
                }
                ends += Integer.bitCount(on);
                darkOnes += on == 0 ? 1 : 0;
            }
            return what == 0 ? ends : darkOnes;
        }
    }

    /** Nights in deed: what they have led to, and the image of it. */
    private static final class Deeds {
        private static final int STEPS = 0, SWITCHINGS = 1, CUTS = 2, MOST = 3, STEP = 4;

        private final int[] led = new int[STEP];
        private final int[] ledThen = new int[STEP];
        private boolean kept;
        private int litThen, stepThen;

        int switchOver(Towers t, int window) {
            led[SWITCHINGS]++;
            if (bitOf(t.curtains, window) == 0) {
                t.lit ^= 1 << window;
            }
            return bitOf(t.shown(), window);
        }

        int passSteps(Towers t, int n) {
            for (int i = 0; i < n; i++) {
                t.lit = t.next(t.lit, 0, t.curtains);
                t.step++;
                led[STEPS]++;
                led[MOST] = Math.max(led[MOST], Integer.bitCount(t.lit));
            }
            return Integer.bitCount(t.lit);
        }

        int cutPower(Towers t) {
            int were = Integer.bitCount(t.shown());
            t.lit = 0;
            led[CUTS]++;
            return were;
        }

        int told(Towers t, int what) {
            return what >= 0 && what < STEP ? led[what] : t.step;
        }

        int keepImage(Towers t) {
            copy(led, ledThen);
            litThen = t.lit;
            stepThen = t.step;
            kept = true;
            return t.step;
        }

        int layBack(Towers t) {
            if (!kept) {
                return STATE;
            }
            copy(ledThen, led);
            t.lit = litThen;
            t.step = stepThen;
            return t.step;
        }

        private static void copy(int[] from, int[] to) {
            for (int i = 0; i < from.length && i < to.length; i++) {
                to[i] = from[i];
            }
        }
    }

    /** The latest changes, in a ring: the done ones from first on, and behind them the undone ones. */
    private static final class Changes {
        private static final int MOST = 40;

        private final int[] numbers = new int[MOST];
        private final int[] whats = new int[MOST];
        private final int[] before = new int[MOST];
        private final int[] behind = new int[MOST];
        private int first, done, kept;

        int howManyDone() {
            return done;
        }

        int howManyUndone() {
            return kept - done;
        }

        void record(int number, int what, int was, int is) {
            if (done == MOST) {
                first = (first + 1) % MOST;
                done--;
            }
            int at = place(done);
            numbers[at] = number;
            whats[at] = what;
            before[at] = was;
            behind[at] = is;
            done++;
            kept = done;
        }

        boolean takeBack(Towers t) {
            if (done < 1) {
                return false;
            }
            done--;
            int at = place(done);
            t.tell(numbers[at], whats[at], before[at]);
            return true;
        }

        boolean doAgain(Towers t) {
            if (done >= kept) {
                return false;
            }
            int at = place(done);
            t.tell(numbers[at], whats[at], behind[at]);
            done++;
            return true;
        }

        private int place(int i) {
            return Math.floorMod(first + i, MOST);
        }
    }

    /** Nights seen, from a row: what the windows' habits are by them, and what to try next. */
    private static final class Seen {
        private static final int FITTING = 178;

        private final int[] codes = new int[FITTING];
        private final int[] fits = new int[FITTING];
        private final int[] nights = new int[Shelf.MOST];
        private int many, size;

        Seen() {
            int i = 1; // code 0, as it is, stands at place 0
            for (int kind = 1; kind <= 2; kind++) {
                for (int w = 0; w < TOWER; w++, i++) {
                    keepCode(i, 1000 * kind + w);
                }
            }
            for (int kind = 3; kind <= 4; kind++) {
                for (int two = 0; two < TOWER * TOWER; two++) {
                    if (two / TOWER < two % TOWER) {
                        keepCode(i, 1000 * kind + two);
                        i++;
                    }
                }
            }
            for (int every = 1; every <= 6; every++) {
                for (int at = 0; at < every; at++, i++) {
                    keepCode(i, 5000 + 10 * every + at);
                }
            }
        }

        private void keepCode(int i, int code) {
            if (i >= 0 && i < FITTING) {
                codes[i] = code;
            }
        }

        /** Takes what a shelf holds as nights: 0, or what is answered instead. */
        int take(Shelf from) {
            if (from.isEmpty()) {
                return NOTHING_THERE;
            }
            if (!from.isRowOf(Shelf.INTS)) {
                return OTHER_KIND;
            }
            size = from.size;
            for (int i = 0; i < size && i < Shelf.MOST; i++) {
                long one = from.at(i);
                if (one < 0 || one > WINDOW_BITS) {
                    return STATE;
                }
                nights[i] = (int) one;
            }
            return 0;
        }

        int firstWrong(Towers t) {
            int on = size > 0 ? t.behind(nights[0], 0) : 0;
            for (int i = 0; i < size && i < Shelf.MOST; i++) {
                if (on != nights[i]) {
                    return i;
                }
                on = t.next(on, i, t.curtains);
            }
            return NOT;
        }

        int firstChange(int window) {
            for (int i = 1; i < size && i < Shelf.MOST; i++) {
                if (bitOf(nights[i] ^ nights[i - 1], window) == 1) {
                    return i;
                }
            }
            return NOT;
        }

        /** Finds the habits that a window may have by what is seen. */
        void fit(int window, int step) {
            many = 0;
            for (int i = 0; i < FITTING; i++) {
                if (isSo(codes[i], window, step)) {
                    fits[many] = codes[i];
                    many++;
                }
            }
        }

        int howManyFit() {
            return many;
        }

        int firstFit() {
            return many > 0 ? fits[0] : NOT;
        }

        private boolean isSo(int code, int window, int step) {
            for (int i = 1; i < size && i < Shelf.MOST; i++) {
                boolean on = tellsOn(code, window, nights[i - 1], step + i - 1);
                if (on != (bitOf(nights[i], window) == 1)) {
                    return false;
                }
            }
            return true;
        }

        private static boolean tellsOn(int code, int window, int bits, int step) {
            int which = code % 1000;
            int across = acrossFrom(bits, window);
            int a = bitOf(across, which / TOWER);
            int b = bitOf(across, which % TOWER);
            switch (code / 1000) {
                case 0:
                    return bitOf(bits, window) == 1;
                case 1:
                    return bitOf(across, which) == 1;
                case 2:
                    return bitOf(across, which) == 0;
                case 3:
                    return (a & b) == 1;
                case 4:
                    return (a ^ b) == 1;
                default:
                    return isTime(step, which / 10, which % 10);
            }
        }

        /** The window (what 0) that, switched at the last place, parts the fitting habits best, or how well (1). */
        int nextTry(int window, int step, int what) {
            if (size < 1 || size > Shelf.MOST) {
                return NOT;
            }
            fit(window, step);
            if (many == 0) {
                return NOT;
            }
            int last = size - 1;
            int best = -1;
            int which = 0;
            for (int w = 0; w < WINDOWS; w++) {
                int on = howManyTellOn(window, nights[last] ^ 1 << w, step + last);
                int lesser = Math.min(on, many - on);
                if (lesser > best) {
                    best = lesser;
                    which = w;
                }
            }
            return what == 0 ? which : best;
        }

        private int howManyTellOn(int window, int bits, int step) {
            int on = 0;
            for (int i = 0; i < many && i < FITTING; i++) {
                if (tellsOn(fits[i], window, bits, step)) {
                    on++;
                }
            }
            return on;
        }
    }

    /** The lamps by number, the bodies of their acts, and the trace of those that ran. */
    private static final class Lamps {
        static final int KINDS = 8;

        private static final int MOST = 50, TRACED = 24, DEEPEST = 40;
        private static final int LIGHTS = 0, MOVES = 1, SAYS = 2, TELLS = 3, ACTS = 4;
        private static final int LAMP = 0, SEEN = 1, CLOCK = 2, ROW = 3, WORD = 4, NIGHT = 5, YAWN = 6, DARK = 7;
        private static final int[] ABOVE = {-1, LAMP, LAMP, CLOCK, SEEN, ROW, LAMP, WORD};
        /** The body that each kind has of each act of its own; 0: none. */
        private static final int[] BODIES = {
            1, 10, 11, 2,
            20, 0, 0, 0,
            0, 30, 0, 0,
            0, 41, 40, 0,
            0, 0, 50, 0,
            0, 0, 0, 60,
            70, 0, 0, 0,
            0, 80, 0, 81,
        };

        private final int[] kinds = new int[MOST];
        private final int[] trace = new int[TRACED];
        private int count, ran;
        private int kind, number;

        int keepOne(int newKind) {
            if (count >= MOST) {
                return FULL;
            }
            kinds[count] = newKind;
            count++;
            return count - 1;
        }

        boolean isLamp(int body) {
            return body >= 0 && body < count && body < MOST;
        }

        int kindOf(int body) {
            return isLamp(body) ? kinds[body] : BAD;
        }

        boolean isUnder(int body, int top) {
            int at = kindOf(body);
            for (int i = 0; i < KINDS && at >= 0; i++) {
                if (at == top) {
                    return true;
                }
                at = kindAbove(at);
            }
            return false;
        }

        private static int kindAbove(int at) {
            return at >= 0 && at < KINDS ? ABOVE[at] : -1;
        }

        int actOf(int body, int act, int x) {
            ran = 0;
            if (!isLamp(body) || act < 0 || act >= ACTS) {
                return 0;
            }
            kind = kinds[body];
            number = body;
            return own(act, x, 0);
        }

        int traceAt(int i) {
            return i >= 0 && i < ran && i < TRACED ? trace[i] : BAD;
        }

        private int own(int act, int x, int depth) {
            return run(bodyFrom(kind, act), x, depth + 1);
        }

        /** super: the body of the act from the kind above on. */
        private int above(int from, int act, int x, int depth) {
            return run(bodyFrom(kindAbove(from), act), x, depth + 1);
        }

        private static int bodyFrom(int from, int act) {
            int at = from;
            for (int i = 0; i < KINDS && at >= 0; i++) {
                int place = at * ACTS + act;
                if (place >= 0 && place < BODIES.length && BODIES[place] != 0) {
                    return BODIES[place];
                }
                at = kindAbove(at);
            }
            return 0;
        }

        private void begin(int body) {
            if (ran >= 0 && ran < TRACED) {
                trace[ran] = body;
            }
            ran++;
        }

        private int run(int body, int x, int depth) {
            if (depth > DEEPEST) {
                return 0;
            }
            begin(body);
            switch (body) {
                case 1:
                    return x + number;
                case 2:
                    return own(MOVES, x, depth) - own(SAYS, 1, depth);
                case 10:
                    return own(LIGHTS, x, depth) * 2;
                case 11:
                    return x ^ number;
                case 20:
                    return above(SEEN, LIGHTS, x, depth) + 3;
                case 30:
                    return -above(CLOCK, MOVES, x, depth);
                case 40:
                    return above(ROW, SAYS, x, depth) * 3;
                case 41:
                    return above(ROW, MOVES, x + 1, depth);
                case 50:
                    return above(WORD, SAYS, x, depth) - own(LIGHTS, 2, depth);
                case 60:
                    return above(NIGHT, TELLS, x, depth) ^ 5;
                case 70:
                    return above(YAWN, LIGHTS, x, depth) * 2;
                case 80:
                    return above(DARK, MOVES, x, depth) + own(SAYS, 2, depth);
                case 81:
                    return above(DARK, TELLS, x, depth) - 1;
                default:
                    return 0;
            }
        }
    }

    /** A shelf: nothing, a lamp's number, or a row of one sort. */
    private static final class Shelf {
        static final int BYTES = 0, SHORTS = 1, INTS = 2, BOOLEANS = 4, MOST = 60;

        private static final int NO_LAMP = -1, NO_ROW = -1;

        private final long[] elements = new long[MOST];
        private int lamp = NO_LAMP;
        private int sort = NO_ROW;
        private int size;

        boolean isEmpty() {
            return lamp == NO_LAMP && sort == NO_ROW;
        }

        boolean isRowOf(int wanted) {
            return sort == wanted;
        }

        void holdLamp(int body) {
            lamp = body;
            sort = NO_ROW;
            size = 0;
        }

        void holdRow(int newSort, int n) {
            lamp = NO_LAMP;
            sort = newSort;
            size = n;
            for (int i = 0; i < MOST; i++) {
                elements[i] = 0;
            }
        }

        /** What is answered for a place of the row that is wanted: 0, if it is there. */
        int refusalAt(int i) {
            if (isEmpty()) {
                return NOTHING_THERE;
            }
            if (sort == NO_ROW) {
                return OTHER_KIND;
            }
            return i >= 0 && i < size ? 0 : NO_PLACE;
        }

        long at(int i) {
            return i >= 0 && i < size && i < MOST ? elements[i] : 0;
        }

        void putAt(int i, long v) {
            if (i >= 0 && i < size && i < MOST) {
                elements[i] = lowest(v);
            }
        }

        private long lowest(long v) {
            switch (sort) {
                case BYTES:
                    return (byte) v;
                case SHORTS:
                    return (short) v;
                case INTS:
                    return (int) v;
                case BOOLEANS:
                    return v != 0 ? 1 : 0;
                default:
                    return v;
            }
        }

        int copyTo(int i, Shelf other, int j, int n) {
            if (isEmpty() || other.isEmpty()) {
                return NOTHING_THERE;
            }
            if (sort == NO_ROW || sort != other.sort) {
                return OTHER_KIND;
            }
            if (!hasPlaces(i, n) || !other.hasPlaces(j, n)) {
                return NO_PLACE;
            }
            System.arraycopy(elements, i, other.elements, j, n);
            return n;
        }

        /** Told by taking away, since i + n could wrap. */
        private boolean hasPlaces(int i, int n) {
            return i >= 0 && n >= 0 && i <= size && n <= size - i;
        }
    }
}
