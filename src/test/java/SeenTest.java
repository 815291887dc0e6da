/** Promises 19 to 24: nights seen, a game, draws. */
public final class SeenTest {
    private static final Checks C = new Checks("SeenTest");
    private static final int FAR = Integer.MAX_VALUE;
    private static final int LOW = Integer.MIN_VALUE;
    private static final int W12 = 1 << 12;
    private static final int W13 = 1 << 13;

    public static void main(String[] args) {
        refusals();
        judge();
        habit();
        habitOfEachKind();
        tries();
        first();
        game();
        drawn();
        C.end();
    }

    private static void four(WhichWindow x, int shelf, int due) {
        C.due("judge of shelf " + shelf, x.judge(shelf), due);
        C.due("habit of shelf " + shelf, x.habit(shelf, 0, 0), due);
        C.due("tries of shelf " + shelf, x.tries(shelf, 0, 0), due);
        C.due("first of shelf " + shelf, x.first(shelf, 0), due);
    }

    private static void refusals() {
        WhichWindow x = new WhichWindow();
        four(x, -1, -1);
        four(x, 6, -1);
        four(x, LOW, -1);
        four(x, FAR, -1);
        four(x, 5, -11);
        x.body(2);
        x.keep(5, 0);
        four(x, 5, -12);
        for (int sort = 0; sort < 5; sort++) {
            if (sort != 2) {
                x.row(1, sort, 2);
                four(x, 1, -12);
            }
        }
        Checks.lay(x, 2, 2, 0, 16777216);
        four(x, 2, -5);
        Checks.lay(x, 2, 2, 0, 0, -1);
        four(x, 2, -5);
        int[][] bad = {{-1, 0}, {24, 0}, {LOW, 0}, {FAR, 0}};
        for (int shelf : new int[] {0, 5, 2}) {
            for (int[] b : bad) {
                C.due("habit", x.habit(shelf, b[0], b[1]), -1);
                C.due("tries", x.tries(shelf, b[0], b[1]), -1);
                C.due("first", x.first(shelf, b[0]), -1);
            }
            for (int what : new int[] {-1, 2, LOW, FAR}) {
                C.due("habit", x.habit(shelf, 0, what), -1);
                C.due("tries", x.tries(shelf, 0, what), -1);
            }
        }
    }

    private static void judge() {
        WhichWindow x = new WhichWindow();
        x.mend(1, 0, 1);
        x.mend(12, 0, 1);
        x.mend(12, 1, 1);
        x.mend(0, 0, 1);
        Checks.lay(x, 0, 2, 8192, 8194, 12290, 12291, 12291);
        C.due("as it comes, whatever is on", x.judge(0), -2);
        x.put(0, 4, 12290);
        C.due("the last", x.judge(0), 4);
        x.put(0, 2, 12291);
        C.due("the first that is not so", x.judge(0), 2);
        x.put(0, 1, 0);
        C.due("the second", x.judge(0), 1);
        x.row(0, 2, 0);
        C.due("nothing seen", x.judge(0), -2);
        Checks.lay(x, 0, 2, 16777215);
        C.due("all on", x.judge(0), -2);
        x.mend(20, 5, 1);
        C.due("one behind a curtain can't be on", x.judge(0), 0);
        x.mend(20, 5, 0);
        x.mend(23, 0, 5);
        Checks.lay(x, 0, 2, 0, 1 << 23, 0);
        C.due("step 0", x.judge(0), -2);
        x.pass(1);
        C.due("step 1", x.judge(0), 1);
        x.pass(1);
        C.due("step 2", x.judge(0), -2);
        C.due("nothing is laid in deed", x.all(0, 0), 0);
        Checks.lay(x, 0, 2, new long[60]);
        C.due("sixty nights", x.judge(0), 1);
        x.mend(23, 0, 0);
        C.due("sixty nights", x.judge(0), -2);
        x.put(0, 59, 1);
        C.due("the sixtieth", x.judge(0), 59);
    }

    private static void habit() {
        WhichWindow x = new WhichWindow();
        x.row(0, 2, 0);
        C.due("nothing seen: all", x.habit(0, 23, 0), 178);
        C.due("nothing seen: the first", x.habit(0, 23, 1), 0);
        Checks.lay(x, 0, 2, 0, 1);
        C.due("out of the dark", x.habit(0, 0, 0), 18);
        C.due("out of the dark", x.habit(0, 0, 1), 2000);
        Checks.lay(x, 0, 2, 0, W12);
        C.due("out of the dark, in the other tower", x.habit(0, 12, 0), 18);
        C.due("out of the dark, in the other tower", x.habit(0, 12, 1), 2000);
        Checks.lay(x, 0, 2, 0, 1, 0, 1);
        C.due("a clock alone", x.habit(0, 0, 0), 1);
        C.due("a clock alone", x.habit(0, 0, 1), 5020);
        x.pass(1);
        C.due("a clock alone from step 1 on", x.habit(0, 0, 1), 5021);
        x.mend(0, 5, 1);
        C.due("curtains do not count", x.habit(0, 0, 1), 5021);
        WhichWindow y = new WhichWindow();
        Checks.lay(y, 0, 2, 0, 1, 0, 0, 0, 0, 0, 0, 1);
        C.due("none", y.habit(0, 0, 0), 0);
        C.due("none", y.habit(0, 0, 1), -2);
        C.due("none to try", y.tries(0, 0, 0), -2);
        C.due("none to try", y.tries(0, 0, 1), -2);
    }

    /** Rows by which one habit alone fits, found in many nights of known windows. */
    private static void habitOfEachKind() {
        WhichWindow x = new WhichWindow();
        Checks.lay(x, 0, 2, W12 | W13, 1 | W12, W13, 0);
        C.due("two of which both are on, and clocks", x.habit(0, 0, 0), 5);
        C.due("two of which both are on", x.habit(0, 0, 1), 3001);
        for (int window : new int[] {7, 19}) {
            int to = window < 12 ? 12 : 0;
            for (int kind = 1; kind <= 4; kind++) {
                for (int a = 0; a < 12; a++) {
                    for (int b = a + 1; b < 12; b++) {
                        int code = kind < 3 ? 1000 * kind + a : 1000 * kind + 12 * a + b;
                        C.due("habit of " + window, alone(window, to, kind, a, b, 0), 1);
                        C.due("habit of " + window, alone(window, to, kind, a, b, 1), code);
                    }
                }
            }
        }
    }

    private static int alone(int window, int to, int kind, int a, int b, int what) {
        WhichWindow x = new WhichWindow();
        long[] row = new long[40];
        int z = 77;
        int on = 0;
        for (int i = 0; i < row.length; i++) {
            z = z * 1103515245 + 12345;
            int across = z >>> 9 & 0xFFF;
            row[i] = across << to | on << window;
            int p = across >> a & 1;
            int q = across >> b & 1;
            on = kind == 1 ? p : kind == 2 ? 1 - p : kind == 3 ? p & q : p ^ q;
        }
        Checks.lay(x, 4, 2, row);
        return x.habit(4, window, what);
    }

    private static void tries() {
        WhichWindow x = new WhichWindow();
        x.row(0, 2, 0);
        C.due("nothing seen", x.tries(0, 0, 0), -2);
        C.due("nothing seen", x.tries(0, 0, 1), -2);
        Checks.lay(x, 0, 2, W12 | W13, 1 | W12, W13, 0);
        C.due("no lamp tells more: the least", x.tries(0, 0, 0), 0);
        C.due("one clock alone tells on", x.tries(0, 0, 1), 1);
        x.put(0, 3, W12);
        C.due("13 for both", x.tries(0, 0, 0), 13);
        C.due("two of five", x.tries(0, 0, 1), 2);
        Checks.lay(x, 0, 2, 0, 1);
        C.due("out of the dark", x.tries(0, 0, 0), 12);
        // step 1: of 12 by SEES off 11 tell on with one switched, of six clocks EVERY 1 alone.
        C.due("out of the dark", x.tries(0, 0, 1), 6);
        Checks.lay(x, 0, 2, 16777215);
        C.due("all on, one night", x.tries(0, 5, 1), 85);
        C.due("nothing is switched", x.all(0, 0), 0);
        Checks.lay(x, 0, 2, new long[60]);
        // Sixty dark nights leave KIND 0, all of 1, 3 and 4, and no clock.
        C.due("sixty nights", x.habit(0, 5, 0), 1 + 12 + 66 + 66);
        C.due("sixty nights: switched by one of the pairs", x.tries(0, 5, 0), 12);
        C.due("sixty nights: KIND 1 by it, KIND 4 of it and another", x.tries(0, 5, 1), 12);
    }

    private static void first() {
        WhichWindow x = new WhichWindow();
        Checks.lay(x, 3, 2, 5, 5, 4, 5, 8388608);
        C.due("window 0", x.first(3, 0), 2);
        C.due("window 2", x.first(3, 2), 4);
        C.due("window 23", x.first(3, 23), 4);
        C.due("window 1", x.first(3, 1), -2);
        Checks.lay(x, 3, 2, 0, 1);
        C.due("at once", x.first(3, 0), 1);
        Checks.lay(x, 3, 2, 1);
        C.due("one night", x.first(3, 0), -2);
        x.row(3, 2, 0);
        C.due("no night", x.first(3, 0), -2);
        x.row(3, 2, 60);
        x.put(3, 59, 2);
        C.due("the sixtieth", x.first(3, 1), 59);
    }

    private static void game() {
        WhichWindow x = new WhichWindow();
        x.mend(12, 0, 1);
        x.mend(13, 0, 1);
        x.mend(13, 1, 0);
        C.due("0 lights two over there", x.game(1, 0), 0);
        C.due("12 moves nothing more", x.game(1, 1), 12);
        C.due("three", x.game(1, 2), 3);
        for (int w = 0; w < 12; w++) {
            x.lamp(w);
        }
        C.due("all on: none", x.game(0, 0), 12);
        C.due("none for the other", x.game(0, 1), 24);
        C.due("twelve", x.game(0, 2), 12);
        x.mend(5, 5, 1);
        C.due("behind a curtain: as none, the least", x.game(0, 0), 5);
        C.due("eleven", x.game(0, 2), 11);
        x.lamp(22);
        C.due("the other one puts it out", x.game(0, 1), 22);
        C.due("eleven", x.game(0, 2), 11);
        C.due("game(20, 2)", x.game(20, 2), 13);
        WhichWindow y = new WhichWindow();
        for (int w = 0; w < 24; w++) {
            y.lamp(w);
        }
        C.due("all on: none", y.game(0, 0), 12);
        C.due("all on: one off", y.game(0, 1), 12);
        C.due("twenty-three", y.game(0, 2), 23);
        int[][] bad = {{-1, 0}, {21, 0}, {0, -1}, {0, 3}, {LOW, 0}, {FAR, 0}, {0, LOW}, {0, FAR}};
        for (int[] b : bad) {
            C.due("game(" + b[0] + ", " + b[1] + ")", x.game(b[0], b[1]), -1);
        }
    }

    private static void drawn() {
        WhichWindow x = new WhichWindow();
        x.lamp(3);
        C.due("no yawns", x.drawn(0, 101, 0), 1);
        C.due("no yawns, twenty nights", x.drawn(7, 2060, 0), 20);
        C.due("none ends dark", x.drawn(7, 2060, 1), 0);
        x.mend(0, 6, 1);
        // z of SEED 0: window 0 yawns (0), 6 (8 of 12), 15 (0), 4 (9), 6 (6), 4 (3)
        C.due("a yawn", x.drawn(0, 101, 0), 2);
        C.due("two nights: the second draws on", x.drawn(0, 201, 0), 3);
        C.due("two nights of two steps", x.drawn(0, 202, 0), 4);
        C.due("three nights of two", x.drawn(0, 302, 0), 5);
        x.mend(0, 6, 12);
        C.due("all yawn: 0, 6, 15, 4", x.drawn(0, 104, 0), 5);
        C.due("and 6 again", x.drawn(0, 105, 0), 4);
        C.due("and 4 again", x.drawn(0, 106, 0), 3);
        x.lamp(3);
        x.mend(0, 5, 1);
        C.due("a yawn behind a curtain", x.drawn(0, 101, 0), 0);
        C.due("a dark end", x.drawn(0, 101, 1), 1);
        C.due("one of two dark ends", x.drawn(0, 201, 1), 1);
        x.mend(0, 5, 0);
        x.mend(12, 0, 1);
        C.due("ahead of the step", x.drawn(0, 101, 0), 2);
        int[][] bad = {{-1, 0}, {0, 0}, {1, 0}, {100, 0}, {161, 0}, {199, 0}, {2101, 0}, {2100, 0}, {2061, 0}, {LOW, 0},
            {FAR, 0}, {101, -1}, {101, 2}, {-101, 0}, {-201, 0}};
        for (int[] b : bad) {
            C.due("drawn(1, " + b[0] + ", " + b[1] + ")", x.drawn(1, b[0], b[1]), -1);
        }
        C.due("drawn of any seed", x.drawn(LOW, 101, 1), 0);
    }
}
