/**
 * Terms 1 and promises 1 to 6, sentence by sentence: the least and the greatest number, what lies one
 * below and one above, nothing there, full, several wrong at once, what a refused call leaves.
 */
public final class EdgeHabitsTest {
    private static final Checks C = new Checks("EdgeHabitsTest");
    private static final int FAR = Integer.MAX_VALUE;
    private static final int LOW = Integer.MIN_VALUE;
    private static final int KIND = 0, SEES = 1, ALSO = 2, EVERY = 3, AT = 4, CURTAIN = 5, YAWNS = 6;

    public static void main(String[] args) {
        windowsOfRows();
        atFirst();
        leastAndGreatest();
        yawnsOfNumberZero();
        noSuchNumber();
        severalWrongAtOnce();
        sameNumberAnswersWhatItWas();
        ofItsOwn();
        byWhatWasAhead();
        sameWindowTwice();
        withoutAText();
        clockEdges();
        lastStepOfClockAndLaw();
        curtainOverEachKind();
        curtainTakenAway();
        curtainOthersSeeItOff();
        C.end();
    }

    /** "WINDOW 4 r and c, and 12 in the other one"; "WINDOWS on as bits (c by c, 0 .. 15)". */
    private static void windowsOfRows() {
        for (int w = 0; w < 24; w++) {
            WhichWindow x = new WhichWindow();
            C.due("lamp(" + w + ")", x.lamp(w), 1);
            C.due("bits of " + w, x.all(0, 0), 1 << w);
            for (int row = 0; row < 6; row++) {
                C.due(w + " in row " + row, x.letter(0, row), row == w / 4 ? 1 << w % 4 : 0);
            }
        }
        for (int row = 0; row < 6; row++) {
            WhichWindow x = new WhichWindow();
            Checks.lamps(x, 4 * row, 4 * row + 1, 4 * row + 2, 4 * row + 3);
            for (int other = 0; other < 6; other++) {
                C.due("row " + row + " on, row " + other, x.letter(0, other), other == row ? 15 : 0);
            }
        }
    }

    /** "off (0; all off at first)"; each number of a HABIT at first; "Two dark towers." */
    private static void atFirst() {
        WhichWindow x = new WhichWindow();
        int[] first = {0, 0, 0, 2, 0, 0};
        for (int w = 0; w < 24; w++) {
            for (int what = 0; what < 6; what++) {
                int due = what == SEES || what == ALSO ? (w < 12 ? w + 12 : w - 12) : first[what];
                C.due("at first of(" + w + ", " + what + ")", x.of(w, what), due);
            }
            C.due("at first of(" + w + ", 10)", x.of(w, 10), 0);
        }
        C.due("YAWNS at first", x.of(0, YAWNS), 0);
        C.due("the step at first", x.of(0, 11), 0);
        C.due("all dark", x.all(0, 0), 0);
        C.due("dark behind 500, too", x.all(500, 0), 0);
    }

    /** The least and the greatest number of each what, for each of the 24 WINDOWS. */
    private static void leastAndGreatest() {
        for (int w = 0; w < 24; w++) {
            int far = w < 12 ? 12 : 0;
            int across = w < 12 ? w + 12 : w - 12;
            span(w, KIND, 0, 6, 0);
            span(w, SEES, far, far + 11, across);
            span(w, ALSO, far, far + 11, across);
            span(w, EVERY, 1, 6, 2);
            span(w, AT, 0, 5, 0);
            span(w, CURTAIN, 0, 1, 0);
        }
        span(0, YAWNS, 0, 12, 0);
    }

    private static void span(int number, int what, int least, int greatest, int first) {
        WhichWindow x = new WhichWindow();
        String name = "mend(" + number + ", " + what + ", ";
        int was = first;
        for (int v : new int[] {LOW, least - 100, least - 1, greatest + 1, greatest + 100, FAR}) {
            C.due(name + v + ")", x.mend(number, what, v), -1);
            C.due("behind " + name + v + ")", x.of(number, what), first);
        }
        for (int v = least; v <= greatest; v++) {
            C.due(name + v + ")", x.mend(number, what, v), was);
            C.due("of behind " + name + v + ")", x.of(number, what), v);
            was = v;
        }
        C.due(name + least + ")", x.mend(number, what, least), greatest);
        C.due("below", x.mend(number, what, least - 1), -1);
        C.due("beyond", x.mend(number, what, greatest + 1), -1);
        C.due("the least still", x.of(number, what), least);
        for (int other = 0; other < 6; other++) {
            if (other != what) {
                int due = other == SEES || other == ALSO ? (number < 12 ? number + 12 : number - 12)
                        : other == EVERY ? 2 : 0;
                C.due("no other number is told " + other, x.of(number, other), due);
            }
        }
    }

    /** "YAWNS (6; number 0)": of no other number. */
    private static void yawnsOfNumberZero() {
        WhichWindow x = new WhichWindow();
        x.mend(0, YAWNS, 5);
        for (int number : new int[] {LOW, -1, 1, 2, 11, 12, 23, 24, FAR}) {
            C.due("mend(" + number + ", 6, 7)", x.mend(number, YAWNS, 7), -1);
            C.due("of(" + number + ", 6)", x.of(number, YAWNS), -1);
        }
        C.due("YAWNS", x.of(0, YAWNS), 5);
        C.due("one change", x.count(2), 1);
    }

    /** BAD: no such number, no such what; of mend() and of of(). */
    private static void noSuchNumber() {
        WhichWindow x = new WhichWindow();
        for (int number : new int[] {LOW, -24, -1, 24, 25, FAR}) {
            for (int what = 0; what < 6; what++) {
                C.due("mend(" + number + ", " + what + ", 1)", x.mend(number, what, 1), -1);
                C.due("of(" + number + ", " + what + ")", x.of(number, what), -1);
            }
            C.due("of(" + number + ", 10)", x.of(number, 10), -1);
            C.due("of(" + number + ", 11)", x.of(number, 11), -1);
        }
        for (int what : new int[] {LOW, -1, 7, 8, 9, 10, 11, 12, FAR}) {
            C.due("mend(0, " + what + ", 1)", x.mend(0, what, 1), -1);
            C.due("mend(23, " + what + ", 0)", x.mend(23, what, 0), -1);
        }
        for (int what : new int[] {LOW, -1, 7, 8, 9, 12, 13, FAR}) {
            C.due("of(0, " + what + ")", x.of(0, what), -1);
            C.due("of(23, " + what + ")", x.of(23, what), -1);
        }
        C.due("no change", x.count(2), 0);
        C.due("none to undo", x.undo(), -5);
    }

    /** mend() has one answer for whatever is wrong; it changes nothing. */
    private static void severalWrongAtOnce() {
        WhichWindow x = new WhichWindow();
        C.due("number and what", x.mend(24, 7, 0), -1);
        C.due("number and v", x.mend(-1, 0, 7), -1);
        C.due("what and v", x.mend(0, 7, 99), -1);
        C.due("all three", x.mend(LOW, FAR, LOW), -1);
        C.due("of: number and what", x.of(24, 9), -1);
        C.due("no change", x.count(2), 0);
        for (int what = 0; what < 6; what++) {
            C.due("as it was " + what, x.of(0, what), what == SEES || what == ALSO ? 12 : what == EVERY ? 2 : 0);
        }
    }

    /** "becomes v: what it was", the same number, too. */
    private static void sameNumberAnswersWhatItWas() {
        WhichWindow x = new WhichWindow();
        C.due("KIND 0 again", x.mend(0, KIND, 0), 0);
        C.due("SEES 12 again", x.mend(0, SEES, 12), 12);
        C.due("ALSO 11 again", x.mend(23, ALSO, 11), 11);
        C.due("EVERY 2 again", x.mend(5, EVERY, 2), 2);
        C.due("AT 0 again", x.mend(5, AT, 0), 0);
        C.due("CURTAIN 0 again", x.mend(5, CURTAIN, 0), 0);
        C.due("YAWNS 0 again", x.mend(0, YAWNS, 0), 0);
        C.due("none of these is a change", x.count(2), 0);
        C.due("greatest", x.mend(0, YAWNS, 12), 0);
        C.due("greatest again", x.mend(0, YAWNS, 12), 12);
        C.due("one change", x.count(2), 1);
    }

    /** "of a WINDOW 10 whether it is on; number 0: 11 the step". */
    private static void ofItsOwn() {
        WhichWindow x = new WhichWindow();
        Checks.lamps(x, 0, 23);
        C.due("of(0, 10)", x.of(0, 10), 1);
        C.due("of(23, 10)", x.of(23, 10), 1);
        C.due("of(22, 10)", x.of(22, 10), 0);
        x.mend(23, CURTAIN, 1);
        C.due("of(23, 10) behind a curtain", x.of(23, 10), 0);
        C.due("of(1, 11)", x.of(1, 11), -1);
        C.due("of(23, 11)", x.of(23, 11), -1);
        C.due("of(0, 11)", x.of(0, 11), 0);
        x.pass(1);
        C.due("of(0, 11) behind one", x.of(0, 11), 1);
        C.due("of(1, 11)", x.of(1, 11), -1);
    }

    /** "A STEP, all by what was so ahead of it": two that see one another change places. */
    private static void byWhatWasAhead() {
        WhichWindow x = new WhichWindow();
        x.mend(0, KIND, 1);
        x.mend(12, KIND, 1);
        x.lamp(0);
        C.due("over there", x.all(1, 0), 1 << 12);
        C.due("and back", x.all(2, 0), 1);
        C.due("in deed", x.pass(1), 1);
        C.due("in deed", x.all(0, 0), 1 << 12);
        WhichWindow y = new WhichWindow();
        y.mend(23, KIND, 1);
        y.mend(11, KIND, 1);
        y.lamp(23);
        C.due("the last ones over there", y.all(1, 0), 1 << 11);
        C.due("and back", y.all(2, 0), 1 << 23);
    }

    /** At first ALSO is the same as SEES: KIND 3 is as both, KIND 4 never on. */
    private static void sameWindowTwice() {
        for (int w : new int[] {0, 11, 12, 23}) {
            int across = w < 12 ? w + 12 : w - 12;
            WhichWindow x = new WhichWindow();
            x.lamp(across);
            x.mend(w, KIND, 3);
            C.due("KIND 3 by one window of " + w, x.on(1, w), 1);
            x.mend(w, KIND, 4);
            C.due("KIND 4 by one window of " + w, x.on(1, w), 0);
            x.lamp(across);
            C.due("KIND 4 by one dark window of " + w, x.on(1, w), 0);
            x.mend(w, KIND, 3);
            C.due("KIND 3 by one dark window of " + w, x.on(1, w), 0);
            x.mend(w, KIND, 6);
            C.due("no text, dark", x.on(1, w), 0);
            x.lamp(across);
            C.due("no text: a and b less m", x.on(1, w), 1);
            x.lamp(w);
            C.due("no text: 2 less 1", x.on(1, w), 1);
            x.mend(w, ALSO, w < 12 ? (w + 1) % 12 + 12 : (w + 1) % 12);
            C.due("no text: 1 less 1", x.on(1, w), 0);
            x.lamp(w);
            C.due("no text: 1", x.on(1, w), 1);
        }
    }

    /** "Without a text: a and b less m", on, if it is more than 0. */
    private static void withoutAText() {
        for (int abm = 0; abm < 8; abm++) {
            WhichWindow x = new WhichWindow();
            x.mend(5, 0, 6);
            x.mend(5, 1, 12);
            x.mend(5, 2, 23);
            int a = abm & 1;
            int b = abm >> 1 & 1;
            int m = abm >> 2;
            if (a == 1) {
                x.lamp(12);
            }
            if (b == 1) {
                x.lamp(23);
            }
            if (m == 1) {
                x.lamp(5);
            }
            C.due("a " + a + ", b " + b + ", m " + m, x.on(1, 5), a + b - m > 0 ? 1 : 0);
            Checks.law(x, "b*m-a");
            C.due("by a text: a " + a + ", b " + b + ", m " + m, x.on(1, 5), b * m - a > 0 ? 1 : 0);
        }
    }

    /** "on, if s % EVERY is AT": an AT that no remainder is, each step, the last remainder. */
    private static void clockEdges() {
        int[][] due = {
            {1, 0, 1, 1, 1, 1, 1, 1, 1}, {1, 1, 0, 0, 0, 0, 0, 0, 0}, {2, 0, 1, 0, 1, 0, 1, 0, 1},
            {2, 1, 0, 1, 0, 1, 0, 1, 0}, {2, 2, 0, 0, 0, 0, 0, 0, 0}, {2, 5, 0, 0, 0, 0, 0, 0, 0},
            {5, 4, 0, 0, 0, 0, 1, 0, 0}, {5, 5, 0, 0, 0, 0, 0, 0, 0}, {6, 5, 0, 0, 0, 0, 0, 1, 0},
            {6, 0, 1, 0, 0, 0, 0, 0, 1},
        };
        for (int[] d : due) {
            WhichWindow x = new WhichWindow();
            x.mend(23, KIND, 5);
            x.mend(23, EVERY, d[0]);
            x.mend(23, AT, d[1]);
            x.lamp(23);
            C.due("now as it is", x.on(0, 23), 1);
            for (int s = 0; s < 7; s++) {
                C.due("EVERY " + d[0] + ", AT " + d[1] + ", step " + s, x.on(s + 1, 23), d[2 + s]);
            }
        }
    }

    /** "step s is the one behind s steps; 0 .. 9999": the last one that passes is 9998, to 9999. */
    private static void lastStepOfClockAndLaw() {
        WhichWindow x = new WhichWindow();
        for (int i = 0; i < 19; i++) {
            x.pass(500);
        }
        x.pass(498);
        C.due("the step", x.of(0, 11), 9998);
        x.mend(7, KIND, 6);
        x.mend(8, KIND, 5);
        x.mend(8, EVERY, 6);
        x.mend(8, AT, 9998 % 6);
        C.due("law", Checks.law(x, "s=9998"), 1);
        C.due("window 7 in thought", x.on(1, 7), 1);
        C.due("both", x.pass(1), 2);
        C.due("the last step", x.of(0, 11), 9999);
        C.due("the step is 9999 now", x.pass(1), -5);
        C.due("still on", x.of(7, 10), 1);
    }

    /** "CURTAIN: off, whatever it does, now, too". */
    private static void curtainOverEachKind() {
        for (int w : new int[] {0, 23}) {
            int across = w < 12 ? w + 12 : w - 12;
            for (int kind = 0; kind < 7; kind++) {
                WhichWindow x = new WhichWindow();
                x.mend(w, KIND, kind);
                x.mend(w, EVERY, 1);
                x.lamp(w);
                if (kind != 2) {
                    x.lamp(across);
                }
                if (kind == 6) {
                    Checks.law(x, "1");
                }
                C.due("KIND " + kind + " on without", x.on(1, w), kind == 4 ? 0 : 1);
                C.due("a curtain", x.mend(w, CURTAIN, 1), 0);
                int bits = kind != 2 ? 1 << across : 0;
                C.due("KIND " + kind + " off now", x.on(0, w), 0);
                C.due("KIND " + kind + " off behind 1", x.on(1, w), 0);
                C.due("KIND " + kind + " off behind 500", x.on(500, w), 0);
                C.due("of", x.of(w, 10), 0);
                C.due("all", x.all(0, 0), bits);
                C.due("all behind 1", x.all(1, 0), bits);
                C.due("count", x.count(0), kind != 2 ? 1 : 0);
                C.due("letter", x.letter(0, w / 4), 0);
                C.due("pass", x.pass(1), kind != 2 ? 1 : 0);
                C.due("of behind a STEP in deed", x.of(w, 10), 0);
            }
        }
    }

    /** "taken away ahead of a STEP: as it was". */
    private static void curtainTakenAway() {
        WhichWindow x = new WhichWindow();
        x.lamp(9);
        x.mend(9, CURTAIN, 1);
        C.due("off", x.of(9, 10), 0);
        x.mend(9, CURTAIN, 0);
        C.due("as it was: on", x.of(9, 10), 1);
        x.mend(9, CURTAIN, 1);
        x.mend(9, CURTAIN, 1);
        C.due("put up twice, off", x.of(9, 10), 0);
        C.due("undone", x.undo(), 2);
        C.due("as it was by undo()", x.of(9, 10), 1);
        C.due("done again", x.redo(), 0);
        C.due("off by redo()", x.of(9, 10), 0);
        x.pass(1);
        x.mend(9, CURTAIN, 0);
        C.due("a STEP put it off", x.of(9, 10), 0);
        x.mend(10, CURTAIN, 1);
        x.mend(10, CURTAIN, 0);
        C.due("as it was: off", x.of(10, 10), 0);
    }

    /** Whoever sees a WINDOW behind a CURTAIN sees it off; the law's n and m count it off. */
    private static void curtainOthersSeeItOff() {
        WhichWindow x = new WhichWindow();
        x.mend(0, KIND, 1);
        x.mend(1, KIND, 2);
        x.mend(1, SEES, 12);
        x.mend(2, KIND, 3);
        x.mend(2, SEES, 12);
        x.mend(2, ALSO, 13);
        x.mend(3, KIND, 4);
        x.mend(3, SEES, 12);
        x.mend(3, ALSO, 13);
        Checks.lamps(x, 12, 13);
        C.due("without: 0 and 2", x.all(1, 0) & 15, 5);
        x.mend(12, CURTAIN, 1);
        C.due("with: 1 and 3", x.all(1, 0) & 15, 10);
        WhichWindow y = new WhichWindow();
        y.mend(0, KIND, 6);
        y.mend(23, KIND, 6);
        Checks.lamps(y, 12, 13, 1, 2);
        Checks.law(y, "n=2");
        C.due("two of each", y.all(1, 0) & (1 << 23 | 1), 1 << 23 | 1);
        y.mend(12, CURTAIN, 1);
        C.due("one of the other tower", y.on(1, 0), 0);
        C.due("two of the first", y.on(1, 23), 1);
        y.mend(1, CURTAIN, 1);
        C.due("one of the first", y.on(1, 23), 0);
        curtainOthersSeeItOffInDeed();
    }

    private static void curtainOthersSeeItOffInDeed() {
        WhichWindow x = new WhichWindow();
        Checks.lamps(x, 12, 13, 5);
        x.mend(0, 0, 6);
        x.mend(1, 0, 1);
        x.mend(1, 1, 12);
        x.mend(5, 0, 6);
        x.mend(12, CURTAIN, 1);
        Checks.law(x, "n=1&!a|m&k=0");
        C.due("0 by n and a, 5 by n, 13 as it is", x.pass(1), 3);
        C.due("0 by n and a, 5 by n, 13 as it is", x.all(0, 0), 1 << 13 | 1 << 5 | 1);
        WhichWindow y = new WhichWindow();
        Checks.lamps(y, 12, 13, 0);
        y.mend(0, 0, 6);
        y.mend(13, CURTAIN, 1);
        Checks.law(y, "n=2|m&n=1");
        C.due("m and one of the other tower, and that one", y.pass(1), 2);
        y.mend(12, CURTAIN, 1);
        C.due("none of the other tower", y.pass(1), 0);
    }
}
