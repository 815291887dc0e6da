/** Promises 33 to 42: bodies and their acts, shelves, counts. */
public final class ShelvesTest {
    private static final Checks C = new Checks("ShelvesTest");
    private static final int FAR = Integer.MAX_VALUE;
    private static final int LOW = Integer.MIN_VALUE;

    public static void main(String[] args) {
        bodies();
        acts();
        noAct();
        againstRealClasses();
        keepAndTaken();
        rows();
        putAndElement();
        shift();
        shiftRefused();
        count();
        C.end();
    }

    private static void bodies() {
        WhichWindow x = new WhichWindow();
        for (int kind : new int[] {-1, 8, LOW, FAR}) {
            C.due("body(" + kind + ")", x.body(kind), -1);
        }
        for (int i = 0; i < 50; i++) {
            C.due("body", x.body(i % 8), i);
        }
        C.due("full", x.body(0), -3);
        C.due("BAD ahead of FULL", x.body(8), -1);
        C.due("fifty", x.count(3), 50);
        C.due("the last acts: says of SEEN 49", x.act(49, 2, 0), 49);
    }

    private static void act(WhichWindow x, int body, int act, int arg, int due, int... trace) {
        String of = "act(" + body + ", " + act + ", " + arg + ")";
        C.due(of, x.act(body, act, arg), due);
        C.due("bodies of " + of, x.count(4), trace.length);
        for (int i = 0; i < trace.length; i++) {
            C.due("trace(" + i + ") of " + of, x.trace(i), trace[i]);
        }
        C.due("trace behind " + of, x.trace(trace.length), -1);
    }

    /** Lamps 0 to 7 of the kinds 0 to 7; worked out by hand. */
    private static void acts() {
        WhichWindow x = new WhichWindow();
        for (int kind = 0; kind < 8; kind++) {
            x.body(kind);
        }
        act(x, 0, 0, 5, 5, 1);
        act(x, 0, 1, 5, 10, 10, 1);
        act(x, 0, 2, 5, 5, 11);
        act(x, 0, 3, 5, 9, 2, 10, 1, 11);
        act(x, 1, 0, 5, 9, 20, 1);
        act(x, 1, 1, 5, 18, 10, 20, 1);
        act(x, 1, 3, 5, 18, 2, 10, 20, 1, 11);
        act(x, 2, 0, 5, 7, 1);
        act(x, 2, 1, 5, -14, 30, 10, 1);
        act(x, 2, 3, 5, -17, 2, 30, 10, 1, 11);
        act(x, 3, 1, 5, -18, 41, 30, 10, 1);
        act(x, 3, 2, 5, 18, 40, 11);
        act(x, 3, 3, 5, -24, 2, 41, 30, 10, 1, 40, 11);
        act(x, 4, 0, 5, 12, 20, 1);
        act(x, 4, 2, 5, -8, 50, 11, 20, 1);
        act(x, 4, 3, 5, 28, 2, 10, 20, 1, 50, 11, 20, 1);
        act(x, 5, 2, 5, 0, 40, 11);
        act(x, 5, 3, 5, (-22 - 12) ^ 5, 60, 2, 41, 30, 10, 1, 40, 11);
        act(x, 6, 0, 5, 22, 70, 1);
        act(x, 6, 1, 5, 44, 10, 70, 1);
        act(x, 6, 3, 5, 37, 2, 10, 70, 1, 11);
        act(x, 7, 0, 5, 15, 20, 1);
        act(x, 7, 2, 5, -10, 50, 11, 20, 1);
        act(x, 7, 1, 5, 23, 80, 10, 20, 1, 50, 11, 20, 1);
        act(x, 7, 3, 5, 23 + 6 - 1, 81, 2, 80, 10, 20, 1, 50, 11, 20, 1, 50, 11, 20, 1);
        act(x, 0, 1, FAR, -2, 10, 1);
        act(x, 2, 1, LOW, -4, 30, 10, 1);
    }

    private static void noAct() {
        WhichWindow x = new WhichWindow();
        x.body(7);
        int[][] none = {{-1, 0}, {1, 0}, {0, -1}, {0, 4}, {LOW, 0}, {FAR, 0}, {0, LOW}, {0, FAR}};
        for (int[] n : none) {
            x.act(0, 3, 1);
            C.due("fourteen ran", x.count(4), 14);
            act(x, n[0], n[1], 5, 0);
            C.due("no trace", x.trace(0), -1);
        }
        x.act(0, 3, 1);
        for (int i : new int[] {-1, 14, 23, 24, LOW, FAR}) {
            C.due("trace(" + i + ")", x.trace(i), -1);
        }
    }

    private static void againstRealClasses() {
        WhichWindow x = new WhichWindow();
        Plain y = new Plain();
        for (int i = 0; i < 50; i++) {
            x.body((i * 5 + i / 8) % 8);
            y.body((i * 5 + i / 8) % 8);
        }
        int calls = 0;
        for (int body = 0; body < 50 && calls < 450; body++) {
            for (int act = 0; act < 4; act++, calls++) {
                int number = 1103515245 * (body + 1) * (act + 3);
                C.due("act(" + body + ", " + act + ", " + number + ")", x.act(body, act, number),
                        y.act(body, act, number));
                C.due("a body of its trace", x.trace(calls % 9), y.trace(calls % 9));
            }
        }
    }

    private static void keepAndTaken() {
        WhichWindow x = new WhichWindow();
        C.due("no lamp 0 yet", x.keep(0, 0), -1);
        for (int kind = 0; kind < 8; kind++) {
            x.body(kind);
        }
        boolean[][] under = new boolean[8][8];
        int[] above = {-1, 0, 0, 2, 1, 3, 0, 4};
        for (int kind = 0; kind < 8; kind++) {
            for (int k = kind; k >= 0; k = above[k]) {
                under[kind][k] = true;
            }
        }
        for (int kind = 0; kind < 8; kind++) {
            C.due("keep", x.keep(kind % 6, kind), 1);
            for (int k = 0; k < 8; k++) {
                C.due("KIND " + kind + " taken for " + k, x.taken(kind % 6, k), under[kind][k] ? kind : -12);
            }
        }
        int[][] bad = {{-1, 0}, {6, 0}, {0, -2}, {0, 8}, {LOW, 0}, {FAR, 0}, {0, LOW}, {0, FAR}};
        for (int[] b : bad) {
            C.due("keep(" + b[0] + ", " + b[1] + ")", x.keep(b[0], b[1]), -1);
        }
        int[][] badKinds = {{-1, 0}, {6, 0}, {0, -1}, {0, 8}, {LOW, 0}, {FAR, 0}, {0, LOW}, {0, FAR}};
        for (int[] b : badKinds) {
            C.due("taken(" + b[0] + ", " + b[1] + ")", x.taken(b[0], b[1]), -1);
        }
        C.due("as it was", x.taken(0, 0), 6);
        C.due("nothing", x.keep(0, -1), 1);
        C.due("nothing there", x.taken(0, 0), -11);
        C.due("nothing twice", x.keep(0, -1), 1);
        x.row(0, 0, 1);
        C.due("a row", x.taken(0, 0), -12);
        C.due("BAD ahead", x.taken(0, 8), -1);
    }

    private static void rows() {
        WhichWindow x = new WhichWindow();
        for (int sort = 0; sort < 5; sort++) {
            C.due("row of 60", x.row(sort, sort, 60), 1);
            C.due("put 59", x.put(sort, 59, 1), 1);
            C.due("put 60", x.put(sort, 60, 1), -13);
            C.due("a new one", x.row(sort, sort, 60), 1);
            C.due("is 0", x.element(sort, 59), 0);
            C.due("row of 0", x.row(sort, sort, 0), 1);
            C.due("put 0", x.put(sort, 0, 1), -13);
        }
        C.due("-14", x.row(0, 0, -1), -14);
        C.due("-14", x.row(0, 4, LOW), -14);
        int[][] bad = {{-1, 0, 1}, {6, 0, 1}, {0, -1, 1}, {0, 5, 1}, {0, 0, 61}, {0, 0, FAR}, {LOW, 0, 1}, {FAR, 0, 1},
            {0, LOW, 1}, {0, FAR, 1}, {6, 0, -1}, {0, 5, -1}};
        for (int[] b : bad) {
            C.due("row(" + b[0] + ", " + b[1] + ", " + b[2] + ")", x.row(b[0], b[1], b[2]), -1);
        }
        x.row(0, 3, 2);
        x.put(0, 1, 77);
        x.row(0, 3, -1);
        x.row(0, 3, 61);
        C.due("what is refused changes nothing", x.element(0, 1), 77);
    }

    private static void putAndElement() {
        WhichWindow x = new WhichWindow();
        long[] numbers = {0, 1, -1, 127, 128, 255, 256, -129, 32768, 65535, 65536, 2147483648L, 4294967295L,
            4294967296L, Long.MAX_VALUE, Long.MIN_VALUE};
        for (int sort = 0; sort < 5; sort++) {
            x.row(1, sort, 3);
            for (long v : numbers) {
                long due = sort == 0 ? (byte) v : sort == 1 ? (short) v : sort == 2 ? (int) v : sort == 3 ? v
                        : v != 0 ? 1 : 0;
                C.due("put", x.put(1, 2, v), 1);
                C.due("element of sort " + sort + " " + v, x.element(1, 2), due);
                C.due("its neighbour", x.element(1, 1), 0);
            }
        }
        x.row(1, 0, 3);
        for (int i : new int[] {-1, 3, LOW, FAR}) {
            C.due("put(1, " + i + ")", x.put(1, i, 5), -13);
            C.due("element(1, " + i + ")", x.element(1, i), Long.MIN_VALUE);
        }
        for (int shelf : new int[] {-1, 6, LOW, FAR}) {
            C.due("put(" + shelf + ")", x.put(shelf, 0, 5), -1);
            C.due("element(" + shelf + ")", x.element(shelf, 0), Long.MIN_VALUE);
        }
        C.due("nothing there", x.put(2, -1, 5), -11);
        C.due("nothing there", x.element(2, 0), Long.MIN_VALUE);
        x.body(0);
        x.keep(2, 0);
        C.due("a lamp", x.put(2, -1, 5), -12);
        C.due("a lamp", x.element(2, 0), Long.MIN_VALUE);
        C.due("the lamp still", x.taken(2, 0), 0);
    }

    private static void row(WhichWindow x, int shelf, long... due) {
        for (int i = 0; i < due.length; i++) {
            C.due("element(" + shelf + ", " + i + ")", x.element(shelf, i), due[i]);
        }
        C.due("no more", x.element(shelf, due.length), Long.MIN_VALUE);
    }

    private static void shift() {
        WhichWindow x = new WhichWindow();
        Checks.lay(x, 0, 1, 1, 2, 3, 4, 5);
        C.due("to the right, over itself", x.shift(0, 0, 0, 1, 4), 4);
        row(x, 0, 1, 1, 2, 3, 4);
        C.due("to the left, over itself", x.shift(0, 1, 0, 0, 4), 4);
        row(x, 0, 1, 2, 3, 4, 4);
        Checks.lay(x, 3, 1, 9, 9, 9);
        C.due("to another", x.shift(0, 1, 3, 1, 2), 2);
        row(x, 3, 9, 2, 3);
        C.due("none", x.shift(0, 5, 3, 3, 0), 0);
        C.due("all", x.shift(0, 0, 0, 0, 5), 5);
        row(x, 0, 1, 2, 3, 4, 4);
        row(x, 3, 9, 2, 3);
        Checks.lay(x, 1, 3, Long.MIN_VALUE + 1, 5);
        Checks.lay(x, 2, 3, 0);
        C.due("longs", x.shift(1, 0, 2, 0, 1), 1);
        row(x, 2, Long.MIN_VALUE + 1);
    }

    private static void shiftRefused() {
        WhichWindow x = new WhichWindow();
        Checks.lay(x, 0, 2, 1, 2, 3);
        Checks.lay(x, 1, 2, 4, 5);
        Checks.lay(x, 2, 3, 6, 7);
        x.body(3);
        x.keep(3, 0);
        int[][] due = {{-1, 0, 1, 0, 1, -1}, {6, 0, 1, 0, 1, -1}, {0, 0, -1, 0, 1, -1}, {0, 0, 6, 0, 1, -1},
            {4, 0, 6, 0, 1, -1}, {4, 0, 1, 0, 1, -11}, {0, 0, 4, 0, 1, -11}, {3, 0, 4, 0, 1, -11},
            {4, 0, 3, 0, 1, -11}, {3, 0, 0, 0, 1, -12}, {0, 0, 3, 0, 1, -12}, {3, 0, 3, 0, 0, -12},
            {0, 0, 2, 0, 1, -12}, {2, 9, 0, 0, 1, -12}, {0, -1, 1, 0, 1, -13}, {0, 0, 1, -1, 1, -13},
            {0, 4, 1, 0, 0, -13}, {0, 0, 1, 3, 0, -13}, {0, 3, 1, 2, 0, 0}, {0, 3, 1, 0, 1, -13}, {0, 0, 1, 2, 1, -13},
            {0, 1, 1, 0, 3, -13}, {0, 0, 1, 0, -1, -13}, {0, 0, 1, 0, LOW, -13}, {0, 1, 1, 1, FAR, -13},
            {0, FAR, 1, 0, FAR, -13}, {0, 0, 1, FAR, 1, -13}, {0, LOW, 1, 0, 1, -13}, {0, 0, 1, LOW, 1, -13}};
        for (int[] d : due) {
            C.due("shift(" + d[0] + ", " + d[1] + ", " + d[2] + ", " + d[3] + ", " + d[4] + ")",
                    x.shift(d[0], d[1], d[2], d[3], d[4]), d[5]);
        }
        row(x, 0, 1, 2, 3);
        row(x, 1, 4, 5);
        row(x, 2, 6, 7);
    }

    private static void count() {
        WhichWindow x = new WhichWindow();
        Checks.lamps(x, 2, 20, 21);
        x.mend(21, 5, 1);
        Checks.feed(x, "abc");
        x.mend(0, 6, 2);
        x.mend(0, 6, 3);
        x.body(1);
        x.body(1);
        x.act(1, 1, 0);
        int[] due = {2, 3, 3, 2, 3};
        for (int i = 0; i < due.length; i++) {
            C.due("count(" + i + ")", x.count(i), due[i]);
        }
        for (int what : new int[] {-1, 5, LOW, FAR}) {
            C.due("count(" + what + ")", x.count(what), -1);
        }
    }
}
