/** Terms 5 (but HABITS FROM A ROW) and promises 33 to 42, sentence by sentence. */
public final class EdgeShelvesTest {
    private static final Checks C = new Checks("EdgeShelvesTest");
    private static final int FAR = Integer.MAX_VALUE;
    private static final int LOW = Integer.MIN_VALUE;
    private static final int BYTES = 0, SHORTS = 1, INTS = 2, LONGS = 3, BOOLEANS = 4;
    private static final int[] NO_SHELF = {LOW, -2, -1, 6, 7, FAR};

    public static void main(String[] args) {
        bodyBounds();
        bodyFull();
        actBounds();
        actOfNone();
        actWraps();
        actsWithTheGreatestNumber();
        traceBounds();
        traceOfTheLongest();
        keepBounds();
        rowBounds();
        rowIsNew();
        rowRefused();
        putBounds();
        lowestBits();
        elementBounds();
        shiftBounds();
        shiftOfEachSort();
        shiftAnswersFirst();
        shiftOverItself();
        shiftOfNone();
        rowsOfTheirOwn();
        takenBounds();
        takenUnder();
        countBounds();
        countEdges();
        C.end();
    }

    /** "A LAMP of a KIND (0 .. 7) is kept: its number. BAD". */
    private static void bodyBounds() {
        WhichWindow x = new WhichWindow();
        for (int kind : new int[] {LOW, -1, 8, 9, FAR}) {
            C.due("body(" + kind + ")", x.body(kind), -1);
            C.due("none is kept", x.count(3), 0);
        }
        for (int kind = 0; kind < 8; kind++) {
            C.due("body(" + kind + ")", x.body(kind), kind);
            C.due("kept", x.count(3), kind + 1);
        }
    }

    /** "BODIES 0 .. 49": FULL. */
    private static void bodyFull() {
        WhichWindow x = new WhichWindow();
        for (int i = 0; i < 50; i++) {
            C.due("the " + i + ".", x.body(7 - i % 8), i);
        }
        C.due("FULL", x.body(0), -3);
        C.due("FULL", x.body(7), -3);
        C.due("BAD is named ahead of FULL", x.body(8), -1);
        C.due("BAD is named ahead of FULL", x.body(-1), -1);
        C.due("fifty", x.count(3), 50);
        C.due("the last one is there, of KIND 6", x.act(49, 0, 1), (1 + 49) * 2);
        C.due("there is no 50th", x.act(50, 0, 1), 0);
        C.due("the last one on a shelf", x.keep(0, 49), 1);
        C.due("of KIND 6", x.taken(0, 0), 6);
        C.due("no 50th on a shelf", x.keep(0, 50), -1);
    }

    private static WhichWindow eight() {
        WhichWindow x = new WhichWindow();
        for (int kind = 0; kind < 8; kind++) {
            x.body(kind);
        }
        return x;
    }

    /** "0, and no TRACE then: no such LAMP, ACT." */
    private static void actBounds() {
        WhichWindow x = eight();
        int[][] none = {{-1, 0}, {8, 0}, {49, 0}, {50, 0}, {0, -1}, {0, 4}, {7, 4}, {8, 4}, {-1, -1}, {LOW, 0}, {FAR, 0},
            {0, LOW}, {0, FAR}};
        for (int[] n : none) {
            C.due("an act ahead", x.act(0, 0, 5), 5);
            C.due("one ran", x.count(4), 1);
            C.due("its trace", x.trace(0), 1);
            C.due("act(" + n[0] + ", " + n[1] + ", 5)", x.act(n[0], n[1], 5), 0);
            C.due("none ran", x.count(4), 0);
            C.due("no TRACE", x.trace(0), -1);
        }
        for (int act = 0; act < 4; act++) {
            C.due("act " + act + " ran", x.act(7, act, 5) != 0 || x.count(4) > 0 ? 1 : 0, 1);
        }
    }

    private static void actOfNone() {
        WhichWindow x = new WhichWindow();
        C.due("no BODIES", x.act(0, 0, 5), 0);
        C.due("none ran", x.count(4), 0);
        C.due("no TRACE", x.trace(0), -1);
        x.body(0);
        C.due("no act yet: none ran", x.count(4), 0);
        C.due("0 lights 0", x.act(0, 0, 0), 0);
        C.due("0, though one ran", x.count(4), 1);
        C.due("LAMP 0 has number 0", x.act(0, 2, -7), -7);
    }

    /** "with x (an int that wraps)". */
    private static void actWraps() {
        WhichWindow x = eight();
        C.due("x + n", x.act(1, 0, FAR), LOW + 3);
        C.due("x + n of 7", x.act(7, 0, FAR), LOW + 6 + 3);
        C.due("lights(x) * 2", x.act(0, 1, FAR), -2);
        C.due("lights(x) * 2", x.act(0, 1, LOW), 0);
        C.due("x ^ n", x.act(0, 2, LOW), LOW);
        C.due("-super.moves(x)", x.act(2, 1, LOW / 2 - 2), LOW);
        C.due("super.says(x) * 3", x.act(3, 2, FAR - 3), (FAR - 3 ^ 3) * 3);
        C.due("super.moves(x + 1)", x.act(3, 1, FAR), -((LOW + 3) * 2));
        C.due("super.lights(x) * 2", x.act(6, 0, FAR), (FAR + 6) * 2);
        C.due("moves(x) - says(1)", x.act(0, 3, FAR), -3);
        C.due("moves(x) - says(1)", x.act(0, 3, LOW), -1);
        C.due("super.says(x) - lights(2)", x.act(4, 2, LOW), (LOW ^ 4) - (2 + 4 + 3));
        C.due("super.tells(x) - 1", x.act(7, 3, LOW), (LOW + 7 + 3) * 2 + ((2 ^ 7) - 12) - ((1 ^ 7) - 12) - 1);
    }

    /** LAMP 49 of each KIND: n is its number, the greatest. */
    private static void actsWithTheGreatestNumber() {
        int[][] due = {
            {49 + 5, 108, 5 ^ 49, 108 - (1 ^ 49)},
            {57, 114, 5 ^ 49, 114 - (1 ^ 49)},
            {54, -108, 5 ^ 49, -108 - (1 ^ 49)},
            {54, -110, (5 ^ 49) * 3, -110 - (1 ^ 49) * 3},
            {57, 114, (5 ^ 49) - 54, 114 - ((1 ^ 49) - 54)},
            {54, -110, (5 ^ 49) * 3, (-110 - (1 ^ 49) * 3) ^ 5},
            {108, 216, 5 ^ 49, 216 - (1 ^ 49)},
            {57, 114 + (2 ^ 49) - 54, (5 ^ 49) - 54, 114 + (2 ^ 49) - 54 - ((1 ^ 49) - 54) - 1},
        };
        for (int kind = 0; kind < 8; kind++) {
            WhichWindow x = new WhichWindow();
            for (int i = 0; i < 49; i++) {
                x.body(0);
            }
            x.body(kind);
            for (int act = 0; act < 4; act++) {
                C.due("act " + act + " of LAMP 49 of KIND " + kind, x.act(49, act, 5), due[kind][act]);
            }
        }
    }

    /** "THE TRACE's i-th body. BAD." i 0 to one less than how many ran. */
    private static void traceBounds() {
        WhichWindow x = eight();
        C.due("no act yet", x.trace(0), -1);
        x.act(3, 3, 5);
        int[] due = {2, 41, 30, 10, 1, 40, 11};
        for (int i = 0; i < due.length; i++) {
            C.due("trace(" + i + ")", x.trace(i), due[i]);
        }
        for (int i : new int[] {LOW, -1, 7, 8, 23, 24, 25, FAR}) {
            C.due("trace(" + i + ")", x.trace(i), -1);
        }
        C.due("seven ran", x.count(4), 7);
        x.act(3, 0, 5);
        C.due("the latest act alone", x.trace(0), 1);
        C.due("the latest act alone", x.trace(1), -1);
        C.due("one ran", x.count(4), 1);
    }

    /** No act of these KINDS runs more than fourteen bodies, so all of them are kept (of 24). */
    private static void traceOfTheLongest() {
        WhichWindow x = eight();
        int most = 0;
        for (int body = 0; body < 8; body++) {
            for (int act = 0; act < 4; act++) {
                x.act(body, act, 1);
                most = Math.max(most, x.count(4));
                C.due("the last one is kept", x.trace(x.count(4) - 1) > 0 ? 1 : 0, 1);
                C.due("no more", x.trace(x.count(4)), -1);
            }
        }
        C.due("the most", most, 14);
        x.act(7, 3, 1);
        int[] due = {81, 2, 80, 10, 20, 1, 50, 11, 20, 1, 50, 11, 20, 1};
        for (int i = 0; i < due.length; i++) {
            C.due("trace(" + i + ")", x.trace(i), due[i]);
        }
    }

    /** "A SHELF holds nothing (body -1), or a LAMP: 1. BAD." */
    private static void keepBounds() {
        WhichWindow x = new WhichWindow();
        for (int body : new int[] {LOW, -2, 0, 1, 49, 50, FAR}) {
            C.due("keep(0, " + body + ")", x.keep(0, body), -1);
        }
        x.body(5);
        x.body(6);
        for (int shelf : NO_SHELF) {
            C.due("keep(" + shelf + ", 0)", x.keep(shelf, 0), -1);
            C.due("keep(" + shelf + ", -1)", x.keep(shelf, -1), -1);
            C.due("both wrong", x.keep(shelf, -2), -1);
        }
        for (int shelf = 0; shelf < 6; shelf++) {
            C.due("nothing on nothing", x.keep(shelf, -1), 1);
            C.due("nothing there", x.taken(shelf, 0), -11);
            C.due("a LAMP", x.keep(shelf, 1), 1);
            C.due("it is there", x.taken(shelf, 0), 6);
            C.due("another one", x.keep(shelf, 0), 1);
            C.due("it is there", x.taken(shelf, 0), 5);
            C.due("no such LAMP", x.keep(shelf, 2), -1);
            C.due("below nothing", x.keep(shelf, -2), -1);
            C.due("it is there still", x.taken(shelf, 5), 5);
        }
        x.row(3, INTS, 2);
        C.due("a LAMP for a row", x.keep(3, 0), 1);
        C.due("no row", x.put(3, 0, 1), -12);
        C.due("no LAMP for a row", x.row(3, BYTES, 2), 1);
        C.due("no LAMP", x.taken(3, 0), -12);
        C.due("a row", x.put(3, 1, 1), 1);
        C.due("a LAMP for a row again", x.keep(3, 0), 1);
        C.due("nothing for a LAMP", x.keep(3, -1), 1);
        C.due("nothing", x.put(3, 0, 1), -11);
        C.due("a row for nothing", x.row(3, INTS, 2), 1);
        C.due("nothing for a row", x.keep(3, -1), 1);
        C.due("nothing", x.element(3, 0), Long.MIN_VALUE);
        C.due("a LAMP on two SHELVES", x.keep(4, 0), 1);
        C.due("a LAMP on two SHELVES", x.taken(4, 3) + x.taken(5, 3), 10);
    }

    /** "of 0 .. 60 elements", sorts 0 .. 4, SHELVES 0 .. 5; "BAD (sort, n above 60); -14". */
    private static void rowBounds() {
        WhichWindow x = new WhichWindow();
        for (int shelf : NO_SHELF) {
            C.due("row(" + shelf + ", 0, 1)", x.row(shelf, 0, 1), -1);
            C.due("BAD ahead of -14", x.row(shelf, 0, -1), -1);
        }
        for (int sort : new int[] {LOW, -1, 5, 6, FAR}) {
            C.due("row(0, " + sort + ", 1)", x.row(0, sort, 1), -1);
            C.due("BAD ahead of -14", x.row(0, sort, -1), -1);
        }
        for (int sort = 0; sort < 5; sort++) {
            for (int n : new int[] {61, 62, 100, FAR}) {
                C.due("row(0, " + sort + ", " + n + ")", x.row(0, sort, n), -1);
            }
            for (int n : new int[] {-1, -2, -60, LOW}) {
                C.due("row(0, " + sort + ", " + n + ")", x.row(0, sort, n), -14);
            }
        }
        C.due("nothing is there", x.put(0, 0, 1), -11);
        for (int shelf = 0; shelf < 6; shelf++) {
            for (int sort = 0; sort < 5; sort++) {
                for (int n : new int[] {0, 1, 59, 60}) {
                    C.due("row", x.row(shelf, sort, n), 1);
                    C.due("behind the last", x.put(shelf, n, 1), -13);
                    C.due("the last", n == 0 ? 1 : x.put(shelf, n - 1, 1), 1);
                }
            }
        }
    }

    /** "0 at first (false)": a row anew, of another sort, shorter and longer again. */
    private static void rowIsNew() {
        WhichWindow x = new WhichWindow();
        for (int sort = 0; sort < 5; sort++) {
            x.row(sort, sort, 60);
            for (int i : new int[] {0, 1, 30, 58, 59}) {
                C.due("0 at first", x.element(sort, i), 0);
                x.put(sort, i, 1);
                C.due("1", x.element(sort, i), 1);
            }
            x.row(sort, (sort + 1) % 5, 59);
            x.row(sort, (sort + 1) % 5, 60);
            for (int i : new int[] {0, 1, 30, 58, 59}) {
                C.due("0 again", x.element(sort, i), 0);
            }
        }
    }

    /** What is refused leaves what is there: a row, a LAMP. */
    private static void rowRefused() {
        WhichWindow x = new WhichWindow();
        x.body(2);
        x.keep(1, 0);
        x.row(0, LONGS, 2);
        x.put(0, 1, Long.MAX_VALUE);
        for (int shelf = 0; shelf < 2; shelf++) {
            C.due("a size below 0", x.row(shelf, BYTES, -1), -14);
            C.due("a size above 60", x.row(shelf, BYTES, 61), -1);
            C.due("no sort", x.row(shelf, 5, 2), -1);
            C.due("no sort, a size below 0", x.row(shelf, -1, -1), -1);
        }
        C.due("the row", x.element(0, 1), Long.MAX_VALUE);
        C.due("two elements", x.put(0, 2, 1), -13);
        C.due("the LAMP", x.taken(1, 2), 2);
    }

    /** "Element i of a ROW becomes v: 1. BAD, -11, -12, -13." */
    private static void putBounds() {
        WhichWindow x = new WhichWindow();
        x.body(0);
        x.keep(1, 0);
        x.row(2, INTS, 0);
        x.row(3, INTS, 1);
        x.row(4, INTS, 60);
        for (int shelf : NO_SHELF) {
            C.due("put(" + shelf + ", 0, 1)", x.put(shelf, 0, 1), -1);
            C.due("put(" + shelf + ", -1, 1)", x.put(shelf, -1, 1), -1);
        }
        for (int i : new int[] {LOW, -1, 0, 60, FAR}) {
            C.due("nothing is there", x.put(0, i, 1), -11);
            C.due("a LAMP", x.put(1, i, 1), -12);
            C.due("a row of none", x.put(2, i, 1), -13);
        }
        for (int i : new int[] {LOW, -1, 1, 2, 60, FAR}) {
            C.due("a row of one", x.put(3, i, 7), -13);
        }
        C.due("as it was", x.element(3, 0), 0);
        for (int i : new int[] {LOW, -1, 60, 61, FAR}) {
            C.due("a row of sixty", x.put(4, i, 7), -13);
        }
        C.due("the first", x.put(4, 0, 5), 1);
        C.due("the last", x.put(4, 59, 6), 1);
        C.due("the first", x.element(4, 0), 5);
        C.due("the last", x.element(4, 59), 6);
        C.due("none between", x.element(4, 1) + x.element(4, 58), 0);
    }

    /** "what is put in keeps its lowest bits (a boolean: whether it is not 0; 1 or 0)". */
    private static void lowestBits() {
        long[][] bytes = {{-129, 127}, {-128, -128}, {-1, -1}, {0, 0}, {127, 127}, {128, -128}, {255, -1}, {256, 0},
            {Long.MAX_VALUE, -1}, {Long.MIN_VALUE, 0}, {Long.MIN_VALUE + 5, 5}};
        long[][] shorts = {{-32769, 32767}, {-32768, -32768}, {-1, -1}, {32767, 32767}, {32768, -32768}, {65535, -1},
            {65536, 0}, {Long.MAX_VALUE, -1}, {Long.MIN_VALUE, 0}, {128, 128}};
        long[][] ints = {{-2147483649L, FAR}, {LOW, LOW}, {-1, -1}, {FAR, FAR}, {2147483648L, LOW}, {4294967295L, -1},
            {4294967296L, 0}, {Long.MAX_VALUE, -1}, {Long.MIN_VALUE, 0}, {65536, 65536}};
        long[][] longs = {{Long.MIN_VALUE + 1, Long.MIN_VALUE + 1}, {Long.MIN_VALUE, Long.MIN_VALUE},
            {Long.MAX_VALUE, Long.MAX_VALUE}, {4294967296L, 4294967296L}, {-1, -1}, {0, 0}};
        long[][] booleans = {{0, 0}, {1, 1}, {-1, 1}, {2, 1}, {256, 1}, {65536, 1}, {4294967296L, 1},
            {Long.MIN_VALUE, 1}, {Long.MAX_VALUE, 1}, {0, 0}};
        kept(BYTES, bytes);
        kept(SHORTS, shorts);
        kept(INTS, ints);
        kept(LONGS, longs);
        kept(BOOLEANS, booleans);
    }

    private static void kept(int sort, long[][] numbers) {
        WhichWindow x = new WhichWindow();
        x.row(5, sort, 60);
        for (long[] number : numbers) {
            for (int i : new int[] {0, 59}) {
                C.due("put of sort " + sort, x.put(5, i, number[0]), 1);
                C.due("element of sort " + sort + " by " + number[0], x.element(5, i), number[1]);
            }
        }
    }

    /** "Element i of a ROW; Long.MIN_VALUE: BAD, -11 to -13." */
    private static void elementBounds() {
        WhichWindow x = new WhichWindow();
        x.body(0);
        x.keep(1, 0);
        x.row(2, LONGS, 0);
        x.row(3, LONGS, 2);
        x.put(3, 0, 8);
        x.put(3, 1, Long.MIN_VALUE + 1);
        for (int shelf : NO_SHELF) {
            C.due("element(" + shelf + ", 0)", x.element(shelf, 0), Long.MIN_VALUE);
        }
        for (int i : new int[] {LOW, -1, 0, 1, 60, FAR}) {
            for (int shelf = 0; shelf < 3; shelf++) {
                C.due("element(" + shelf + ", " + i + ")", x.element(shelf, i), Long.MIN_VALUE);
            }
        }
        for (int i : new int[] {LOW, -1, 2, 3, 60, FAR}) {
            C.due("element(3, " + i + ")", x.element(3, i), Long.MIN_VALUE);
        }
        C.due("element(3, 0)", x.element(3, 0), 8);
        C.due("element(3, 1)", x.element(3, 1), Long.MIN_VALUE + 1);
    }

    private static void row(WhichWindow x, int shelf, long... due) {
        for (int i = 0; i < due.length; i++) {
            C.due("element(" + shelf + ", " + i + ")", x.element(shelf, i), due[i]);
        }
        C.due("no more", x.element(shelf, due.length), Long.MIN_VALUE);
    }

    /** n elements from i on, to j on: the most that there are, one more than that, places that are not there. */
    private static void shiftBounds() {
        WhichWindow x = new WhichWindow();
        Checks.lay(x, 0, INTS, 1, 2, 3, 4, 5);
        Checks.lay(x, 1, INTS, 6, 7, 8);
        int[][] due = {{0, 0, 3, 3}, {0, 0, 4, -13}, {2, 0, 3, 3}, {3, 0, 3, -13}, {3, 0, 2, 2}, {4, 0, 1, 1},
            {4, 0, 2, -13}, {5, 0, 1, -13}, {0, 1, 2, 2}, {0, 1, 3, -13}, {0, 2, 1, 1}, {0, 2, 2, -13}, {0, 3, 1, -13},
            {-1, 0, 1, -13}, {0, -1, 1, -13}, {-1, -1, 3, -13}, {6, 0, 1, -13}, {0, 4, 1, -13}, {LOW, 0, 1, -13},
            {FAR, 0, 1, -13}, {0, LOW, 1, -13}, {0, FAR, 1, -13}, {1, 0, FAR, -13}, {0, 1, FAR, -13}, {FAR, 1, FAR, -13},
            {FAR, FAR, FAR, -13}, {5, 3, FAR, -13}};
        for (int[] d : due) {
            C.due("shift(0, " + d[0] + ", 1, " + d[1] + ", " + d[2] + ")", x.shift(0, d[0], 1, d[1], d[2]), d[3]);
        }
        row(x, 0, 1, 2, 3, 4, 5);
        row(x, 1, 5, 1, 1);
        WhichWindow y = new WhichWindow();
        y.row(0, BYTES, 60);
        y.row(5, BYTES, 60);
        y.put(0, 0, 1);
        y.put(0, 59, 60);
        C.due("all sixty", y.shift(0, 0, 5, 0, 60), 60);
        C.due("the first", y.element(5, 0), 1);
        C.due("the last", y.element(5, 59), 60);
        C.due("sixty-one", y.shift(0, 0, 5, 0, 61), -13);
        C.due("the last to the first", y.shift(0, 59, 5, 0, 1), 1);
        C.due("the last to the first", y.element(5, 0), 60);
        C.due("behind the last", y.shift(0, 60, 5, 0, 1), -13);
    }

    /** Two ROWS of one sort: each of the five. */
    private static void shiftOfEachSort() {
        for (int sort = 0; sort < 5; sort++) {
            for (int other = 0; other < 5; other++) {
                WhichWindow x = new WhichWindow();
                Checks.lay(x, 0, sort, 1, 0, 1);
                Checks.lay(x, 1, other, 0, 1, 0);
                C.due("sort " + sort + " to " + other, x.shift(0, 0, 1, 0, 3), sort == other ? 3 : -12);
                row(x, 1, sort == other ? 1 : 0, sort == other ? 0 : 1, sort == other ? 1 : 0);
                row(x, 0, 1, 0, 1);
            }
        }
    }

    /** BAD, "-11 (either), -12 (no ROWS, or of unlike sorts), -13", of several the one named first. */
    private static void shiftAnswersFirst() {
        WhichWindow x = new WhichWindow();
        x.body(0);
        Checks.lay(x, 0, INTS, 1, 2);
        Checks.lay(x, 1, LONGS, 3, 4);
        x.keep(2, 0);
        x.keep(3, 0);
        for (int shelf : NO_SHELF) {
            C.due("no such shelf from", x.shift(shelf, 0, 0, 0, 1), -1);
            C.due("no such shelf to", x.shift(0, 0, shelf, 0, 1), -1);
            C.due("none at all", x.shift(shelf, -1, shelf, -1, 99), -1);
            C.due("BAD ahead of -11", x.shift(shelf, 0, 5, 0, 1), -1);
            C.due("BAD ahead of -11", x.shift(5, 0, shelf, 0, 1), -1);
            C.due("BAD ahead of -12", x.shift(2, 0, shelf, 0, 1), -1);
            C.due("BAD ahead of -13", x.shift(0, 9, shelf, 0, 1), -1);
        }
        int[][] due = {{4, 5, 0, -11}, {4, 0, 0, -11}, {0, 4, 0, -11}, {4, 4, 0, -11}, {4, 2, 0, -11}, {2, 4, 0, -11},
            {4, 0, 9, -11}, {0, 4, 9, -11}, {2, 0, 0, -12}, {0, 2, 0, -12}, {2, 3, 0, -12}, {2, 2, 0, -12}, {2, 0, 9, -12},
            {0, 2, 9, -12}, {0, 1, 0, -12}, {1, 0, 0, -12}, {0, 1, 9, -12}, {0, 0, 9, -13}, {1, 1, -1, -13}};
        for (int[] d : due) {
            C.due("shift(" + d[0] + ", " + d[2] + ", " + d[1] + ", 0, 1)", x.shift(d[0], d[2], d[1], 0, 1), d[3]);
            C.due("shift(" + d[0] + ", 0, " + d[1] + ", " + d[2] + ", 1)", x.shift(d[0], 0, d[1], d[2], 1), d[3]);
        }
        row(x, 0, 1, 2);
        row(x, 1, 3, 4);
    }

    /** "(or the same) .. as they all were before". */
    private static void shiftOverItself() {
        long[] numbers = {1, 2, 3, 4, 5, 6, 7};
        for (int i = 0; i < 7; i++) {
            for (int j = 0; j < 7; j++) {
                WhichWindow x = new WhichWindow();
                Checks.lay(x, 4, SHORTS, numbers);
                int n = 7 - Math.max(i, j);
                C.due("from " + i + " to " + j, x.shift(4, i, 4, j, n), n);
                for (int k = 0; k < 7; k++) {
                    C.due("element " + k, x.element(4, k), k >= j && k < j + n ? numbers[k - j + i] : numbers[k]);
                }
                C.due("one more", x.shift(4, i, 4, j, n + 1), -13);
            }
        }
    }

    /** "-13 (with n 0, too, if i or j is above how many there are)": as many as there are is so. */
    private static void shiftOfNone() {
        WhichWindow x = new WhichWindow();
        Checks.lay(x, 0, BOOLEANS, 1, 1);
        Checks.lay(x, 1, BOOLEANS, 0, 0, 0);
        x.row(2, BOOLEANS, 0);
        int[][] due = {{0, 0, 0}, {2, 0, 0}, {2, 3, 0}, {0, 3, 0}, {3, 0, -13}, {0, 4, -13}, {3, 4, -13}, {-1, 0, -13},
            {0, -1, -13}, {FAR, 0, -13}, {0, FAR, -13}, {LOW, LOW, -13}};
        for (int[] d : due) {
            C.due("shift(0, " + d[0] + ", 1, " + d[1] + ", 0)", x.shift(0, d[0], 1, d[1], 0), d[2]);
        }
        C.due("of none to none", x.shift(2, 0, 2, 0, 0), 0);
        C.due("of none to some", x.shift(2, 0, 1, 3, 0), 0);
        C.due("one of none", x.shift(2, 0, 1, 0, 1), -13);
        C.due("from 1 of none", x.shift(2, 1, 1, 0, 0), -13);
        C.due("one to none", x.shift(1, 0, 2, 0, 1), -13);
        row(x, 1, 0, 0, 0);
    }

    /** What was shifted stays as it came; SHELVES and objects know nothing of one another. */
    private static void rowsOfTheirOwn() {
        WhichWindow x = new WhichWindow();
        WhichWindow other = new WhichWindow();
        Checks.lay(x, 0, LONGS, 1, 2);
        Checks.lay(x, 1, LONGS, 3, 4);
        x.shift(0, 0, 1, 0, 2);
        x.put(0, 0, 9);
        row(x, 1, 1, 2);
        x.put(1, 1, 8);
        row(x, 0, 9, 2);
        x.row(0, BYTES, 1);
        row(x, 1, 1, 8);
        x.lamp(3);
        x.pass(2);
        x.mend(0, 0, 6);
        Checks.law(x, "1");
        x.body(0);
        x.image();
        C.due("nothing on the other's shelf", other.put(0, 0, 1), -11);
        C.due("no LAMP of the other", other.keep(0, 0), -1);
        C.due("dark", other.all(0, 0), 0);
        C.due("the step", other.of(0, 11), 0);
        C.due("no image", other.back(), -5);
        other.mend(0, 0, 6);
        C.due("no text", other.on(1, 0), 0);
    }

    /** "What a SHELF holds, taken for a LAMP of KIND k (0 .. 7) ..: BAD, -11, -12." */
    private static void takenBounds() {
        WhichWindow x = new WhichWindow();
        x.body(0);
        x.keep(1, 0);
        x.row(2, INTS, 0);
        for (int k : new int[] {LOW, -1, 8, 9, FAR}) {
            for (int shelf = 0; shelf < 3; shelf++) {
                C.due("taken(" + shelf + ", " + k + ")", x.taken(shelf, k), -1);
            }
            C.due("both wrong", x.taken(6, k), -1);
        }
        for (int shelf : NO_SHELF) {
            C.due("taken(" + shelf + ", 0)", x.taken(shelf, 0), -1);
            C.due("taken(" + shelf + ", 7)", x.taken(shelf, 7), -1);
        }
        for (int k = 0; k < 8; k++) {
            C.due("nothing is there", x.taken(0, k), -11);
            C.due("a LAMP of KIND 0", x.taken(1, k), k == 0 ? 0 : -12);
            C.due("a row", x.taken(2, k), -12);
        }
    }

    /** "1 SEEN under LAMP; 2 CLOCK under LAMP; 3 ROW under CLOCK; 4 WORD under SEEN; 5 NIGHT under ROW; ..". */
    private static void takenUnder() {
        String[] under = {"0", "01", "02", "023", "014", "0235", "06", "0147"};
        for (int kind = 0; kind < 8; kind++) {
            WhichWindow x = eight();
            x.keep(5, kind);
            for (int k = 0; k < 8; k++) {
                C.due("KIND " + kind + " for " + k, x.taken(5, k), under[kind].indexOf('0' + k) >= 0 ? kind : -12);
            }
        }
    }

    /** "How many: 0 .. 4. BAD." */
    private static void countBounds() {
        WhichWindow x = new WhichWindow();
        for (int what : new int[] {LOW, -1, 5, 6, FAR}) {
            C.due("count(" + what + ")", x.count(what), -1);
        }
        for (int what = 0; what < 5; what++) {
            C.due("count(" + what + ")", x.count(what), 0);
        }
    }

    /** Each count where it is none, and at its most. */
    private static void countEdges() {
        WhichWindow x = new WhichWindow();
        for (int w = 0; w < 24; w++) {
            x.lamp(w);
            C.due("on", x.count(0), w + 1);
        }
        x.mend(0, 5, 1);
        C.due("one behind a curtain", x.count(0), 23);
        x.cut();
        C.due("none", x.count(0), 0);
        for (int i = 1; i <= 120; i++) {
            x.feed('a');
        }
        C.due("on THE TAPE", x.count(1), 120);
        x.feed('a');
        C.due("on THE TAPE", x.count(1), 120);
        x.law();
        C.due("THE TAPE is empty", x.count(1), 0);
        C.due("one change", x.count(2), 1);
        x.undo();
        C.due("none may be undone", x.count(2), 0);
        x.redo();
        C.due("one may be undone", x.count(2), 1);
        x.body(7);
        C.due("a body", x.count(3), 1);
        x.act(0, 3, 1);
        C.due("all that ran", x.count(4), 14);
        x.act(1, 3, 1);
        C.due("no such LAMP", x.count(4), 0);
        x.pass(1);
        C.due("the rest stays", x.count(3), 1);
    }
}
