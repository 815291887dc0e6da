/** Terms 2 and promises 7 to 18, sentence by sentence. */
public final class EdgeThoughtTest {
    private static final Checks C = new Checks("EdgeThoughtTest");
    private static final int FAR = Integer.MAX_VALUE;
    private static final int LOW = Integer.MIN_VALUE;
    private static final int[] NO_WORDS = {LOW, -516, -116, -101, -100, -16, -1, 16, 17, 99, 116, 199, 216, 316, 416,
        516, 599, 600, 601, 615, 700, 1000, 10000, FAR};

    public static void main(String[] args) {
        onBounds();
        letterBounds();
        allBounds();
        fromNow();
        roundOfLittle();
        roundByRemainder();
        roundByClocksOrLawAnywhere();
        roundWithinFiveHundred();
        roundBeyondFiveHundred();
        dark();
        comesBounds();
        comesAtTheEdges();
        setBounds();
        setFewest();
        setLeastBits();
        setBehindCurtains();
        curtainBounds();
        curtainWithinHundred();
        curtainFirstOfMany();
        curtainThatLetsItCome();
        changesIt();
        movedBy();
        canSay();
        togetherBounds();
        togetherCounts();
        C.end();
    }

    /** Windows 0 and 23 are on behind each even count of steps. */
    private static WhichWindow evens() {
        WhichWindow x = new WhichWindow();
        for (int w : new int[] {0, 23}) {
            x.mend(w, 0, 5);
            x.mend(w, 4, 1);
        }
        return x;
    }

    /** on(): n 0 .. 500, WINDOWS 0 .. 23. */
    private static void onBounds() {
        WhichWindow x = evens();
        for (int w : new int[] {0, 23}) {
            C.due("on(0, " + w + ")", x.on(0, w), 0);
            C.due("on(1, " + w + ")", x.on(1, w), 0);
            C.due("on(2, " + w + ")", x.on(2, w), 1);
            C.due("on(499, " + w + ")", x.on(499, w), 0);
            C.due("on(500, " + w + ")", x.on(500, w), 1);
            for (int n : new int[] {LOW, -2, -1, 501, 502, FAR}) {
                C.due("on(" + n + ", " + w + ")", x.on(n, w), -1);
            }
        }
        C.due("on(500, 22)", x.on(500, 22), 0);
        for (int w : new int[] {LOW, -1, 24, 25, FAR}) {
            C.due("on(0, " + w + ")", x.on(0, w), -1);
            C.due("on(500, " + w + ")", x.on(500, w), -1);
            C.due("both wrong", x.on(-1, w), -1);
            C.due("both wrong", x.on(501, w), -1);
        }
    }

    /** letter(): n 0 .. 500, ROWS 0 .. 5. */
    private static void letterBounds() {
        WhichWindow x = evens();
        C.due("letter(0, 0)", x.letter(0, 0), 0);
        C.due("letter(499, 0)", x.letter(499, 0), 0);
        C.due("letter(500, 0)", x.letter(500, 0), 1);
        C.due("letter(500, 5)", x.letter(500, 5), 8);
        C.due("letter(500, 4)", x.letter(500, 4), 0);
        for (int n : new int[] {LOW, -1, 501, FAR}) {
            C.due("letter(" + n + ", 0)", x.letter(n, 0), -1);
            C.due("letter(" + n + ", 5)", x.letter(n, 5), -1);
            C.due("both wrong", x.letter(n, 6), -1);
        }
        for (int row : new int[] {LOW, -1, 6, 7, FAR}) {
            C.due("letter(0, " + row + ")", x.letter(0, row), -1);
            C.due("letter(500, " + row + ")", x.letter(500, row), -1);
        }
    }

    /** all(): n 0 .. 500, what 0, 1; no WINDOW on, all on. */
    private static void allBounds() {
        WhichWindow x = evens();
        C.due("all(0, 0)", x.all(0, 0), 0);
        C.due("all(0, 1)", x.all(0, 1), 0);
        C.due("all(499, 1)", x.all(499, 1), 0);
        C.due("all(500, 0)", x.all(500, 0), 1 << 23 | 1);
        C.due("all(500, 1)", x.all(500, 1), 2);
        for (int n : new int[] {LOW, -1, 501, FAR}) {
            C.due("all(" + n + ", 0)", x.all(n, 0), -1);
            C.due("all(" + n + ", 1)", x.all(n, 1), -1);
            C.due("both wrong", x.all(n, 2), -1);
        }
        for (int what : new int[] {LOW, -1, 2, 10, FAR}) {
            C.due("all(0, " + what + ")", x.all(0, what), -1);
            C.due("all(500, " + what + ")", x.all(500, what), -1);
        }
        WhichWindow y = new WhichWindow();
        for (int w = 0; w < 24; w++) {
            y.lamp(w);
        }
        C.due("all on", y.all(0, 0), 16777215);
        C.due("all on behind 500", y.all(500, 0), 16777215);
        C.due("twenty-four", y.all(0, 1), 24);
        C.due("twenty-four behind 500", y.all(500, 1), 24);
    }

    /** "NIGHTS in thought, from now": behind steps in deed, by the step that is now. */
    private static void fromNow() {
        WhichWindow x = evens();
        x.pass(1);
        C.due("now", x.all(0, 1), 0);
        C.due("behind 1", x.all(1, 1), 2);
        C.due("behind 500", x.all(500, 1), 0);
        C.due("in deed", x.pass(1), 2);
        C.due("now", x.on(0, 23), 1);
        x.lamp(23);
        C.due("a lamp counts", x.all(0, 0), 1);
        C.due("comes at once", x.comes(1), 0);
        C.due("not dark yet", x.dark(), 1);
        lawFromNow();
    }

    /** At step 5 a law of step 7 is behind three steps for each call that thinks on. */
    private static void lawFromNow() {
        WhichWindow x = new WhichWindow();
        for (int w = 12; w < 15; w++) {
            x.mend(w, 0, 6);
        }
        Checks.law(x, "s=7");
        x.pass(5);
        C.due("comes", x.comes(307), 3);
        C.due("none to set", x.set(307, 3, 0), 0);
        C.due("not yet", x.set(307, 2, 0), -2);
        C.due("by a curtain", x.curtain(307), 12);
        C.due("not yet", x.canSay(3, 2), 279);
        C.due("said, with 15, too", x.canSay(3, 3), 279 | 1 << 7 | 1 << 15);
        C.due("dark but behind three", x.together(30, 60), 60);
        C.due("not yet", x.together(30, 2), 3);
        C.due("three and a lamp", x.game(3, 2), 4);
        C.due("a lamp", x.game(2, 2), 1);
        C.due("three nights of three", x.drawn(1, 303, 0), 9);
        C.due("three nights of four", x.drawn(1, 304, 0), 0);
        Checks.law(x, "s=7&m<n");
        C.due("n by a lamp now", x.changesIt(0, 3), 7 << 12 | 1);
        C.due("n by a lamp now, not yet", x.changesIt(0, 2), 1);
        C.due("12 by each of the other tower", x.movedBy(12, 3), 0xFFF);
        C.due("12 by none yet", x.movedBy(12, 2), 0);
    }

    private static void round(WhichWindow x, int first, int length) {
        C.due("round(0)", x.round(0), first);
        C.due("round(1)", x.round(1), length);
        for (int what : new int[] {LOW, -1, 2, 3, FAR}) {
            C.due("round(" + what + ")", x.round(what), -1);
        }
    }

    /** The shortest rounds: nothing moves, two ways, four ways; what comes ahead of the first. */
    private static void roundOfLittle() {
        round(new WhichWindow(), 0, 1);
        WhichWindow all = new WhichWindow();
        for (int w = 0; w < 24; w++) {
            all.lamp(w);
        }
        round(all, 0, 1);
        WhichWindow two = new WhichWindow();
        two.mend(0, 0, 2);
        two.mend(12, 0, 2);
        round(two, 0, 2);
        WhichWindow four = new WhichWindow();
        four.mend(0, 0, 2);
        four.mend(12, 0, 1);
        round(four, 0, 4);
        WhichWindow late = new WhichWindow();
        late.mend(12, 0, 1);
        late.lamp(0);
        round(late, 1, 1);
        late.mend(1, 0, 1);
        late.mend(1, 1, 12);
        round(late, 2, 1);
        late.mend(1, 5, 1);
        round(late, 1, 1);
        late.pass(1);
        round(late, 0, 1);
    }

    /** "(if any WINDOW is of KIND 5, 6: the step's remainder by 60, too)". */
    private static void roundByRemainder() {
        WhichWindow x = new WhichWindow();
        x.mend(0, 0, 5);
        x.mend(0, 3, 1);
        round(x, 1, 60);
        x.pass(1);
        round(x, 0, 60);
        x.pass(58);
        round(x, 0, 60);
        x.pass(1);
        C.due("step 60", x.of(0, 11), 60);
        round(x, 0, 60);
        x.mend(0, 0, 6);
        Checks.law(x, "0");
        round(x, 1, 60);
        x.mend(0, 0, 0);
        round(x, 0, 1);
        Checks.law(x, "s%2");
        x.mend(0, 0, 6);
        round(x, 0, 60);
        x.lamp(0);
        round(x, 1, 60);
        x.pass(1);
        round(x, 0, 60);
        for (int blocks = 1; blocks <= 9; blocks++) {
            round(blocks(blocks), blocks == 9 ? -2 : 0, blocks == 9 ? -2 : 60 * blocks);
        }
    }

    /** Four windows tell by bits which block of 60 steps it is, of so many that come in turn. */
    private static WhichWindow blocks(int many) {
        WhichWindow x = new WhichWindow();
        String block = "(s+1)/60%" + many;
        for (int i = 0; i < 4; i++) {
            x.mend(12 + i, 0, 6);
        }
        C.due("law", Checks.law(x, "k=12?" + block + "%2;k=13?" + block + "/2%2;k=14?" + block + "/4%2;" + block + "/8"), 1);
        return x;
    }

    /** Any WINDOW: the first, the last, behind a CURTAIN, with a clock that never strikes. */
    private static void roundByClocksOrLawAnywhere() {
        for (int w : new int[] {0, 11, 12, 23}) {
            for (int kind = 5; kind <= 6; kind++) {
                WhichWindow x = new WhichWindow();
                round(x, 0, 1);
                x.mend(w, 0, kind);
                x.mend(w, 4, 5);
                round(x, 0, 60);
                x.mend(w, 5, 1);
                round(x, 0, 60);
                x.mend(w, 0, 4);
                round(x, 0, 1);
            }
        }
    }

    private static WhichWindow net(int[] kinds, int[] sees, int[] also, int on) {
        WhichWindow x = new WhichWindow();
        for (int w = 0; w < 24; w++) {
            x.mend(w, 0, kinds[w]);
            x.mend(w, 1, sees[w]);
            x.mend(w, 2, also[w]);
            if ((on >> w & 1) == 1) {
                x.lamp(w);
            }
        }
        return x;
    }

    /** "(both together no more than 500)": 40 and 460, without a clock or the law; 440 and 60 with it. */
    private static void roundWithinFiveHundred() {
        WhichWindow x = net(
                new int[] {4, 4, 4, 4, 1, 4, 4, 2, 2, 3, 2, 0, 2, 4, 3, 1, 4, 4, 4, 4, 4, 1, 4, 0},
                new int[] {12, 14, 17, 22, 12, 14, 16, 14, 15, 18, 16, 23, 8, 0, 9, 5, 0, 2, 1, 1, 3, 7, 1, 11},
                new int[] {14, 18, 14, 17, 16, 20, 21, 19, 20, 15, 22, 23, 0, 3, 5, 3, 2, 9, 10, 3, 5, 9, 0, 11}, 1589);
        round(x, 40, 460);
        C.due("as it is behind 40", x.all(500, 0), x.all(40, 0));
        C.due("not as behind 39", x.all(499, 0) == x.all(39, 0) ? 1 : 0, 0);
        x.pass(1);
        round(x, 39, 460);
        x.pass(39);
        round(x, 0, 460);
        round(counting(41), 440, 60);
    }

    /** NOT: both together 501. */
    private static void roundBeyondFiveHundred() {
        WhichWindow x = net(
                new int[] {4, 2, 4, 1, 4, 4, 2, 4, 3, 2, 2, 0, 4, 4, 4, 2, 1, 4, 1, 4, 4, 1, 4, 0},
                new int[] {22, 22, 19, 16, 18, 21, 12, 13, 12, 14, 20, 23, 0, 6, 4, 5, 9, 2, 3, 7, 4, 1, 5, 11},
                new int[] {18, 13, 15, 15, 13, 19, 18, 21, 21, 21, 22, 23, 8, 5, 3, 3, 4, 7, 6, 8, 0, 9, 4, 11}, 1217);
        round(x, -2, -2);
        x.pass(1);
        round(x, 2, 498);
        x.pass(2);
        round(x, 0, 498);
        round(counting(40), -2, -2);
    }

    /** Four windows count the blocks of 60 steps; the last block begins within 440, if more is 41. */
    private static WhichWindow counting(int more) {
        WhichWindow x = new WhichWindow();
        for (int w = 0; w < 4; w++) {
            x.mend(w, 0, 6);
        }
        String text = "s>498?k=3;(k=0&(s+41)/60%2)|(k=1&(s+41)/120%2)|(k=2&(s+41)/240%2)|(k=3&(s+41)/480)";
        C.due("law", Checks.law(x, text.replace("41", "" + more)), 1);
        return x;
    }

    /** "DARK: the first STEP count (0 .. 500) behind which all are off; NOT." */
    private static void dark() {
        WhichWindow x = new WhichWindow();
        C.due("dark now", x.dark(), 0);
        x.lamp(23);
        C.due("one on for good", x.dark(), -2);
        x.mend(23, 5, 1);
        C.due("behind a curtain", x.dark(), 0);
        x.mend(23, 5, 0);
        x.mend(23, 0, 1);
        C.due("behind one step", x.dark(), 1);
        x.mend(23, 0, 6);
        int[][] last = {{1, 2}, {498, 499}, {499, 500}, {500, -2}, {501, -2}};
        for (int[] l : last) {
            Checks.law(x, "s<" + l[0]);
            C.due("on while s is below " + l[0], x.dark(), l[1] == 2 ? 2 : l[1]);
        }
        x.pass(1);
        Checks.law(x, "s<500");
        C.due("from step 1 on", x.dark(), 500);
        Checks.law(x, "s<501");
        C.due("from step 1 on", x.dark(), -2);
        x.cut();
        C.due("a cut", x.dark(), 0);
    }

    /** rl: 100 times the ROW (0 .. 5), and the LETTER (0 .. 15). */
    private static void comesBounds() {
        WhichWindow x = new WhichWindow();
        for (int row = 0; row < 6; row++) {
            for (int letter = 0; letter < 16; letter++) {
                C.due("comes(" + (100 * row + letter) + ")", x.comes(100 * row + letter), letter == 0 ? 0 : -2);
            }
        }
        for (int rl : NO_WORDS) {
            C.due("comes(" + rl + ")", x.comes(rl), -1);
        }
    }

    /** "COMES: the first STEP count (0 .. 500) behind which a ROW says a LETTER; NOT." */
    private static void comesAtTheEdges() {
        for (int w : new int[] {0, 23}) {
            int rl = w == 0 ? 1 : 508;
            WhichWindow x = new WhichWindow();
            x.mend(w, 0, 6);
            int[][] due = {{0, 1}, {1, 2}, {498, 499}, {499, 500}, {500, -2}};
            for (int[] d : due) {
                Checks.law(x, "s=" + d[0] + "|s=" + (d[0] + 1));
                C.due("window " + w + " at " + d[0], x.comes(rl), d[1]);
                C.due("off at once", x.comes(rl / 100 * 100), 0);
            }
            x.lamp(w);
            C.due("on at once", x.comes(rl), 0);
            C.due("off behind one", x.comes(rl / 100 * 100), 1);
        }
        WhichWindow x = new WhichWindow();
        Checks.lamps(x, 8, 9, 10, 11);
        C.due("comes(215)", x.comes(215), 0);
        C.due("comes(214)", x.comes(214), -2);
        x.mend(8, 5, 1);
        C.due("comes(214)", x.comes(214), 0);
        C.due("comes(215)", x.comes(215), -2);
    }

    /** set(): rl, n 0 .. 60, what 0, 1; BAD is named ahead of NOT. */
    private static void setBounds() {
        WhichWindow x = new WhichWindow();
        for (int n : new int[] {0, 1, 59, 60}) {
            C.due("set(1, " + n + ", 0)", x.set(1, n, 0), 1);
            C.due("set(508, " + n + ", 1)", x.set(508, n, 1), 1 << 23);
            C.due("set(515, " + n + ", 0)", x.set(515, n, 0), -2);
            C.due("set(515, " + n + ", 1)", x.set(515, n, 1), -2);
        }
        for (int n : new int[] {LOW, -1, 61, 500, FAR}) {
            C.due("set(1, " + n + ", 0)", x.set(1, n, 0), -1);
            C.due("set(15, " + n + ", 1)", x.set(15, n, 1), -1);
        }
        for (int what : new int[] {LOW, -1, 2, FAR}) {
            C.due("set(1, 0, " + what + ")", x.set(1, 0, what), -1);
            C.due("set(15, 60, " + what + ")", x.set(15, 60, what), -1);
        }
        for (int rl : NO_WORDS) {
            C.due("set(" + rl + ", 0, 0)", x.set(rl, 0, 0), -1);
            C.due("set(" + rl + ", 61, 2)", x.set(rl, 61, 2), -1);
        }
        x.mend(0, 0, 5);
        x.mend(0, 3, 6);
        x.mend(0, 4, 5);
        C.due("on behind 60 steps without a lamp", x.set(1, 60, 0), 0);
        C.due("on behind 59 steps never", x.set(1, 59, 0), -2);
    }

    /** "the fewest WINDOWS (0 .. 2)": none, one, two; three are too many. */
    private static void setFewest() {
        WhichWindow x = new WhichWindow();
        for (int row = 0; row < 6; row++) {
            for (int letter = 0; letter < 16; letter++) {
                int many = Integer.bitCount(letter);
                int rl = 100 * row + letter;
                C.due("set(" + rl + ", 0, 0)", x.set(rl, 0, 0), many <= 2 ? many : -2);
                C.due("set(" + rl + ", 0, 1)", x.set(rl, 0, 1), many <= 2 ? letter << 4 * row : -2);
            }
        }
        Checks.lamps(x, 20, 21, 22, 23);
        C.due("all four on: none", x.set(515, 60, 0), 0);
        C.due("all four on: none", x.set(515, 60, 1), 0);
        C.due("two off", x.set(503, 60, 1), 1 << 22 | 1 << 23);
        C.due("three off", x.set(501, 60, 0), -2);
        x.mend(0, 0, 1);
        x.mend(1, 0, 1);
        x.mend(1, 1, 12);
        C.due("one lamp for two windows", x.set(3, 1, 0), 1);
        C.due("one lamp for two windows", x.set(3, 1, 1), 1 << 12);
        x.lamp(12);
        C.due("none rather than any", x.set(3, 1, 1), 0);
        x.mend(2, 0, 4);
        x.mend(2, 1, 12);
        x.mend(2, 2, 13);
        C.due("one rather than two", x.set(3, 1, 0), 1);
        C.due("one rather than two", x.set(3, 1, 1), 1 << 13);
    }

    /** "(bits of the WINDOWS; of like ones the least bits)": as numbers, not by the first of a pair. */
    private static void setLeastBits() {
        WhichWindow x = new WhichWindow();
        x.mend(12, 0, 4);
        x.mend(12, 1, 7);
        x.mend(12, 2, 3);
        C.due("3 rather than 7", x.set(301, 1, 1), 1 << 3);
        x.mend(8, 0, 4);
        x.mend(8, 1, 23);
        x.mend(8, 2, 14);
        C.due("14 rather than 23", x.set(201, 1, 1), 1 << 14);
        WhichWindow y = new WhichWindow();
        three(y, 12, 0, 5);
        three(y, 13, 1, 2);
        y.mend(8, 0, 4);
        y.mend(8, 1, 12);
        y.mend(8, 2, 13);
        C.due("1 and 2 (6) rather than 0 and 5 (33)", y.set(201, 2, 1), 6);
        C.due("two", y.set(201, 2, 0), 2);
        C.due("behind one step by 12 or 13", y.set(201, 1, 1), 1 << 12);
        WhichWindow z = new WhichWindow();
        three(z, 0, 12, 23);
        three(z, 1, 13, 22);
        z.mend(20, 0, 4);
        z.mend(20, 1, 0);
        z.mend(20, 2, 1);
        C.due("13 and 22 rather than 12 and 23", z.set(501, 2, 0), -2);
        z.mend(22, 1, 10);
        z.mend(21, 5, 1);
        C.due("row 5 with 22 on", z.set(505, 2, 1), 1 << 13 | 1 << 22);
    }

    private static void three(WhichWindow x, int w, int sees, int also) {
        x.mend(w, 0, 3);
        x.mend(w, 1, sees);
        x.mend(w, 2, also);
    }

    /** A WINDOW behind a CURTAIN is off, switched or not. */
    private static void setBehindCurtains() {
        WhichWindow x = new WhichWindow();
        x.mend(0, 5, 1);
        C.due("never on", x.set(1, 0, 0), -2);
        C.due("never on", x.set(1, 60, 1), -2);
        C.due("off as it is", x.set(0, 0, 0), 0);
        x.mend(0, 5, 0);
        x.lamp(0);
        x.mend(0, 5, 1);
        C.due("on but for the curtain", x.set(1, 0, 0), -2);
        C.due("off already", x.set(0, 0, 1), 0);
        x.mend(12, 0, 1);
        C.due("seen as off", x.set(301, 1, 0), -2);
    }

    /** curtain(): rl; BAD, NOT, -3. */
    private static void curtainBounds() {
        WhichWindow x = new WhichWindow();
        for (int rl : NO_WORDS) {
            C.due("curtain(" + rl + ")", x.curtain(rl), -1);
        }
        for (int row = 0; row < 6; row++) {
            C.due("LETTER 0 of row " + row + " is said now", x.curtain(100 * row), -2);
            C.due("LETTER 15 of row " + row + " never", x.curtain(100 * row + 15), -3);
        }
        Checks.lamps(x, 0, 1, 2, 3, 23);
        C.due("by 0", x.curtain(15), 0);
        C.due("by 23", x.curtain(508), 23);
        C.due("LETTER 0 never", x.curtain(0), -3);
        x.mend(0, 5, 1);
        C.due("LETTER 15 never", x.curtain(15), -3);
        C.due("a curtain more on 0 changes nothing: by 1", x.curtain(14), 1);
        C.due("no curtain is put up", x.of(1, 5), 0);
        WhichWindow y = new WhichWindow();
        Checks.lamps(y, 20, 21);
        y.mend(20, 5, 1);
        C.due("the curtains that are up stay so: by 21", y.curtain(502), 21);
        C.due("not while 20 has one", y.curtain(503), -3);
    }

    /** "behind any of 0 .. 100 STEPS": 100 counts, 101 does not; without, and with the CURTAIN. */
    private static void curtainWithinHundred() {
        WhichWindow x = new WhichWindow();
        x.mend(12, 0, 6);
        x.mend(12, 1, 0);
        x.lamp(0);
        int[][] without = {{98, 12}, {99, 12}, {100, -3}, {101, -3}};
        for (int[] w : without) {
            Checks.law(x, "s=" + w[0]);
            C.due("on at " + w[0], x.curtain(301), w[1]);
        }
        int[][] with = {{98, 12}, {99, 12}, {100, 0}, {101, 0}};
        for (int[] w : with) {
            Checks.law(x, "a?s=50;s=" + w[0]);
            C.due("with window 0 off on at " + w[0], x.curtain(301), w[1]);
        }
        x.lamp(12);
        C.due("now, too: by 12 alone", x.curtain(301), 12);
    }

    /** "the first WINDOW by whose CURTAIN a ROW does not say". */
    private static void curtainFirstOfMany() {
        WhichWindow x = new WhichWindow();
        three(x, 12, 5, 9);
        x.mend(13, 0, 1);
        x.mend(13, 1, 9);
        Checks.lamps(x, 5, 9);
        C.due("by 5", x.curtain(303), 5);
        x.mend(12, 0, 1);
        x.mend(12, 1, 9);
        C.due("by 9", x.curtain(303), 9);
        x.lamp(12);
        x.lamp(13);
        C.due("said now: by 12 of the row alone", x.curtain(303), 12);
    }

    /** LETTER 0 comes as long as 0 puts 12 off; behind a curtain 0 does not. A curtain may bring a LETTER, too. */
    private static void curtainThatLetsItCome() {
        WhichWindow x = new WhichWindow();
        x.mend(12, 0, 2);
        x.mend(12, 1, 3);
        Checks.lamps(x, 3, 12);
        C.due("12 is put off", x.comes(300), 1);
        C.due("by 3", x.curtain(300), 3);
        C.due("12 is on now", x.curtain(301), 12);
        x.lamp(12);
        C.due("off now: by none", x.curtain(300), -2);
        C.due("never on without a curtain", x.curtain(301), -3);
    }

    /** CHANGES IT: n 0 .. 60; a WINDOW behind a CURTAIN; no WINDOW. */
    private static void changesIt() {
        for (int w = 0; w < 24; w++) {
            WhichWindow x = new WhichWindow();
            C.due("itself now", x.changesIt(w, 0), 1 << w);
            C.due("itself behind 60", x.changesIt(w, 60), 1 << w);
            C.due("BAD -1", x.changesIt(w, -1), -1);
            C.due("BAD 61", x.changesIt(w, 61), -1);
            C.due("moved by itself", x.movedBy(w, 0), 1 << w);
            C.due("moved by itself behind 60", x.movedBy(w, 60), 1 << w);
            C.due("BAD -1", x.movedBy(w, -1), -1);
            C.due("BAD 61", x.movedBy(w, 61), -1);
            x.mend(w, 5, 1);
            C.due("none behind a curtain", x.changesIt(w, 0), 0);
            C.due("none behind a curtain", x.changesIt(w, 60), 0);
        }
        WhichWindow x = new WhichWindow();
        for (int w : new int[] {LOW, -1, 24, FAR}) {
            for (int n : new int[] {LOW, -1, 0, 60, 61, FAR}) {
                C.due("changesIt(" + w + ", " + n + ")", x.changesIt(w, n), -1);
                C.due("movedBy(" + w + ", " + n + ")", x.movedBy(w, n), -1);
            }
        }
        for (int n : new int[] {LOW, FAR}) {
            C.due("changesIt(0, " + n + ")", x.changesIt(0, n), -1);
            C.due("movedBy(0, " + n + ")", x.movedBy(0, n), -1);
        }
        x.mend(12, 0, 1);
        x.mend(0, 0, 5);
        C.due("a clock is itself for now", x.changesIt(0, 0), 1);
        C.due("behind one step another", x.changesIt(0, 1), 1 << 12);
        C.due("then no more", x.changesIt(0, 2), 0);
        x.mend(13, 0, 2);
        x.mend(13, 1, 0);
        C.due("two others", x.changesIt(0, 1), 1 << 12 | 1 << 13);
        for (int w = 12; w < 24; w++) {
            x.mend(w, 0, 1);
            x.mend(w, 1, 0);
        }
        x.mend(0, 0, 0);
        C.due("the other tower and itself", x.changesIt(0, 60), 0xFFF001);
    }

    /** MOVED BY: "switched now, each alone". */
    private static void movedBy() {
        WhichWindow x = new WhichWindow();
        three(x, 0, 12, 13);
        C.due("none alone", x.movedBy(0, 1), 0);
        x.lamp(12);
        C.due("13 alone", x.movedBy(0, 1), 1 << 13);
        x.lamp(13);
        C.due("either alone", x.movedBy(0, 1), 1 << 12 | 1 << 13);
        x.mend(13, 5, 1);
        C.due("12 is not enough, 13 can't", x.movedBy(0, 1), 0);
        x.mend(0, 5, 1);
        C.due("behind a curtain", x.movedBy(0, 0), 0);
        WhichWindow y = new WhichWindow();
        y.mend(23, 0, 6);
        Checks.law(y, "n%2");
        C.due("each of the other tower", y.movedBy(23, 1), 0xFFF);
        C.due("each of the other tower behind 60", y.movedBy(23, 60), 0xFFF);
        C.due("itself now", y.movedBy(23, 0), 1 << 23);
        Checks.law(y, "0");
        C.due("none", y.movedBy(23, 60), 0);
    }

    /** CAN SAY: rows 0 .. 5, n 0 .. 60, "from now, or with any one WINDOW switched now". */
    private static void canSay() {
        WhichWindow x = new WhichWindow();
        for (int row = 0; row < 6; row++) {
            C.due("now or with one", x.canSay(row, 0), 1 | 1 << 1 | 1 << 2 | 1 << 4 | 1 << 8);
            C.due("behind 60, too", x.canSay(row, 60), 1 | 1 << 1 | 1 << 2 | 1 << 4 | 1 << 8);
            for (int n : new int[] {LOW, -1, 61, FAR}) {
                C.due("canSay(" + row + ", " + n + ")", x.canSay(row, n), -1);
            }
        }
        for (int row : new int[] {LOW, -1, 6, FAR}) {
            for (int n : new int[] {-1, 0, 60, 61}) {
                C.due("canSay(" + row + ", " + n + ")", x.canSay(row, n), -1);
            }
        }
        Checks.lamps(x, 20, 21, 22, 23);
        C.due("15 and three of it", x.canSay(5, 0), 1 << 15 | 1 << 14 | 1 << 13 | 1 << 11 | 1 << 7);
        WhichWindow y = new WhichWindow();
        for (int w = 0; w < 4; w++) {
            y.mend(w, 0, 6);
        }
        Checks.law(y, "s=59");
        C.due("0 and one ahead of the last step", y.canSay(0, 59), 279);
        C.due("15 behind 60 steps", y.canSay(0, 60), 279 | 1 << 15);
        Checks.law(y, "s=60");
        C.due("not behind 61", y.canSay(0, 60), 279);
        y.mend(3, 5, 1);
        Checks.law(y, "s=59");
        C.due("never with 3 on", y.canSay(0, 60), 1 | 1 << 1 | 1 << 2 | 1 << 4 | 1 << 7);
        WhichWindow z = new WhichWindow();
        z.mend(0, 0, 1);
        z.mend(1, 0, 1);
        z.mend(1, 1, 12);
        C.due("3 by one lamp over there", z.canSay(0, 1), 279 | 1 << 3);
        C.due("not yet", z.canSay(0, 0), 279);
        canSayFromNowAlone();
    }

    /** Behind two steps 15 is said if both towers have an even count now; one switched makes one of them odd. */
    private static void canSayFromNowAlone() {
        WhichWindow x = new WhichWindow();
        for (int w = 0; w < 24; w++) {
            x.mend(w, 0, 6);
        }
        C.due("law", Checks.law(x, "s=0?(k=0|k>11)&n%2;k<4&n=0&!(k=0&m)"), 1);
        C.due("15 from now, 14 and 0 with one", x.canSay(0, 2), 279 | 1 << 14 | 1 << 15);
        C.due("not yet", x.canSay(0, 1), 279);
        x.lamp(23);
        C.due("14 from now, 15 with one of the other tower", x.canSay(0, 2), 279 | 1 << 14 | 1 << 15);
        x.lamp(11);
        C.due("0 alone: both odd, one of them even", x.canSay(0, 2), 279 | 1 << 14);
    }

    /** "two ROWS (ab: 10 times the one ROW and the other, unlike)", n 0 .. 60. */
    private static void togetherBounds() {
        WhichWindow x = new WhichWindow();
        for (int ab = 0; ab < 70; ab++) {
            int a = ab / 10;
            int b = ab % 10;
            boolean is = a < 6 && b < 6 && a != b;
            C.due("together(" + ab + ", 0)", x.together(ab, 0), is ? 1 : -1);
            C.due("together(" + ab + ", 60)", x.together(ab, 60), is ? 61 : -1);
            C.due("together(" + ab + ", -1)", x.together(ab, -1), -1);
            C.due("together(" + ab + ", 61)", x.together(ab, 61), -1);
        }
        for (int ab : new int[] {LOW, -54, -45, -12, -10, -5, -1, 70, 99, 100, 101, 110, 1000, FAR}) {
            C.due("together(" + ab + ", 0)", x.together(ab, 0), -1);
            C.due("together(" + ab + ", 61)", x.together(ab, 61), -1);
        }
        C.due("together(1, LOW)", x.together(1, LOW), -1);
        C.due("together(1, FAR)", x.together(1, FAR), -1);
    }

    /** "how many of 0 .. n STEPS": now is one of them, the n-th is, too. */
    private static void togetherCounts() {
        WhichWindow x = new WhichWindow();
        x.lamp(0);
        x.mend(12, 0, 1);
        C.due("now not", x.together(3, 0), 0);
        C.due("behind one", x.together(3, 1), 1);
        C.due("behind sixty", x.together(3, 60), 60);
        C.due("the other way", x.together(30, 60), 60);
        WhichWindow y = new WhichWindow();
        y.mend(20, 0, 6);
        Checks.law(y, "s=59");
        C.due("all but the last", y.together(54, 60), 60);
        C.due("all", y.together(54, 59), 60);
        Checks.law(y, "s<60");
        C.due("now alone", y.together(45, 60), 1);
        C.due("never both", y.together(45, 0), 1);
        y.lamp(20);
        C.due("never", y.together(45, 60), 0);
    }
}
