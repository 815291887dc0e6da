/** Terms 3, DRAWN of Terms 4 and promises 19 to 24, sentence by sentence. */
public final class EdgeSeenTest {
    private static final Checks C = new Checks("EdgeSeenTest");
    private static final int FAR = Integer.MAX_VALUE;
    private static final int LOW = Integer.MIN_VALUE;
    private static final int ALL = 16777215;

    public static void main(String[] args) {
        noShelf();
        noWindowNoWhat();
        nothingThere();
        otherKinds();
        notWindows();
        whichAnswerFirst();
        judgeBySize();
        judgeEachPlace();
        judgeWhateverIsOn();
        judgeFromTheStep();
        howManyFit();
        firstOfEachKind();
        clocksOfAnObject();
        habitsFromTheStep();
        curtainsDoNotCount();
        triesOfOneNight();
        triesAtTheLastPlace();
        triesByTheStep();
        triesOfLikeOnes();
        triesNone();
        first();
        gameBounds();
        gameOfLikeOnes();
        gameGreatestAndLeast();
        gameBehindSteps();
        drawnBounds();
        yawnsBelow();
        seedsThatWrap();
        nightsAndSteps();
        darkEnds();
        drawnFromNow();
        C.end();
    }

    private static void four(WhichWindow x, int shelf, int due) {
        C.due("judge(" + shelf + ")", x.judge(shelf), due);
        for (int what = 0; what <= 1; what++) {
            C.due("habit(" + shelf + ", 23, " + what + ")", x.habit(shelf, 23, what), due);
            C.due("tries(" + shelf + ", 0, " + what + ")", x.tries(shelf, 0, what), due);
        }
        C.due("first(" + shelf + ", 0)", x.first(shelf, 0), due);
    }

    /** SHELVES 0 .. 5: one below and one above. */
    private static void noShelf() {
        WhichWindow x = new WhichWindow();
        for (int shelf : new int[] {LOW, -2, -1, 6, 7, FAR}) {
            four(x, shelf, -1);
        }
        for (int shelf = 0; shelf < 6; shelf++) {
            four(x, shelf, -11);
        }
    }

    /** A WINDOW 0 .. 23, what 0, 1: BAD, whatever the shelf holds. */
    private static void noWindowNoWhat() {
        WhichWindow x = new WhichWindow();
        x.body(0);
        x.keep(1, 0);
        x.row(2, 3, 1);
        x.row(3, 2, 0);
        Checks.lay(x, 4, 2, -1);
        Checks.lay(x, 5, 2, 0, ALL);
        for (int shelf = 0; shelf < 6; shelf++) {
            for (int w : new int[] {LOW, -1, 24, 25, FAR}) {
                C.due("habit of window " + w, x.habit(shelf, w, 0), -1);
                C.due("tries of window " + w, x.tries(shelf, w, 0), -1);
                C.due("first of window " + w, x.first(shelf, w), -1);
            }
            for (int what : new int[] {LOW, -1, 2, 10, FAR}) {
                C.due("habit, what " + what, x.habit(shelf, 0, what), -1);
                C.due("tries, what " + what, x.tries(shelf, 0, what), -1);
            }
        }
        C.due("the last window", x.habit(5, 23, 0) > 0 ? 1 : 0, 1);
        C.due("the last window", x.first(5, 23), 1);
    }

    /** -11 nothing is there; gone with the row that was there. */
    private static void nothingThere() {
        WhichWindow x = new WhichWindow();
        four(x, 0, -11);
        x.row(0, 2, 1);
        C.due("a night", x.judge(0), -2);
        x.keep(0, -1);
        four(x, 0, -11);
        four(x, 5, -11);
    }

    /** -12: no ROW of ints, however many elements; a LAMP. */
    private static void otherKinds() {
        WhichWindow x = new WhichWindow();
        x.body(7);
        x.keep(5, 0);
        four(x, 5, -12);
        for (int sort : new int[] {0, 1, 3, 4}) {
            for (int size : new int[] {0, 1, 60}) {
                x.row(sort, sort, size);
                four(x, sort, -12);
            }
        }
        x.put(3, 0, -1);
        four(x, 3, -12);
        x.row(3, 2, 1);
        C.due("ints", x.judge(3), -2);
    }

    /** "STATE: one is not 0 .. 16777215": the first, one between, the last. */
    private static void notWindows() {
        for (int size : new int[] {1, 2, 60}) {
            for (int at : new int[] {0, size / 2, size - 1}) {
                WhichWindow x = new WhichWindow();
                x.row(0, 2, size);
                for (long v : new long[] {LOW, -16777216, -1, 16777216, 16777217, FAR}) {
                    x.put(0, at, v);
                    four(x, 0, -5);
                }
                x.put(0, at, 0);
                C.due("0 is so", x.judge(0), -2);
                x.put(0, at, ALL);
                C.due("16777215 is so", x.judge(0) != -5 ? 1 : 0, 1);
                C.due("16777215 is so", x.habit(0, 0, 0) != -5 ? 1 : 0, 1);
                C.due("16777215 is so", x.tries(0, 0, 1) != -5 ? 1 : 0, 1);
                C.due("16777215 is so", x.first(0, 23), size == 1 ? -2 : at == 0 ? 1 : at);
                x.put(0, at, 4294967296L + ALL);
                C.due("the lowest bits", x.first(0, 23), size == 1 ? -2 : at == 0 ? 1 : at);
            }
        }
    }

    /** Several wrong at once: BAD, -11, -12, STATE, NOT. */
    private static void whichAnswerFirst() {
        WhichWindow x = new WhichWindow();
        C.due("no window, no shelf, no what", x.habit(6, 24, 2), -1);
        C.due("no window, nothing there", x.habit(0, 24, 0), -1);
        C.due("no what, nothing there", x.tries(0, 0, 2), -1);
        C.due("no window, nothing there", x.first(0, -1), -1);
        x.row(0, 3, 2);
        x.put(0, 0, -1);
        C.due("no window, longs", x.first(0, 24), -1);
        four(x, 0, -12);
        // By the nights ahead of the last one nothing fits, and window 0 is otherwise at 1.
        Checks.lay(x, 1, 2, 0, 1, 1, 0, -1);
        C.due("STATE rather than NOT", x.habit(1, 0, 1), -5);
        C.due("STATE rather than NOT", x.tries(1, 0, 0), -5);
        C.due("STATE rather than NOT", x.first(1, 5), -5);
        C.due("STATE rather than a place", x.judge(1), -5);
        C.due("STATE rather than a place", x.first(1, 0), -5);
        C.due("BAD rather than STATE", x.first(1, 24), -1);
    }

    /** JUDGED of no night, one, two, sixty. */
    private static void judgeBySize() {
        WhichWindow x = new WhichWindow();
        for (int size : new int[] {0, 1, 2, 59, 60}) {
            x.row(0, 2, size);
            C.due("a row of " + size, x.judge(0), -2);
        }
        x.mend(0, 0, 2);
        x.row(0, 2, 0);
        C.due("no night", x.judge(0), -2);
        x.row(0, 2, 1);
        C.due("one night", x.judge(0), -2);
        x.row(0, 2, 2);
        C.due("two nights", x.judge(0), 1);
        x.put(0, 1, 1);
        C.due("two nights", x.judge(0), -2);
        x.put(0, 1, 1 << 23 | 1);
        C.due("two nights", x.judge(0), 1);
    }

    /** "the first place that is not so": each of 1 .. 59, and the first of several. */
    private static void judgeEachPlace() {
        WhichWindow x = new WhichWindow();
        x.mend(23, 0, 5);
        x.row(4, 2, 60);
        for (int i = 0; i < 60; i++) {
            x.put(4, i, i % 2 == 1 ? 1 << 23 : 0);
        }
        C.due("all so", x.judge(4), -2);
        for (int i = 59; i > 0; i--) {
            x.put(4, i, i % 2 == 0 ? 1 << 23 : 0);
            C.due("place " + i, x.judge(4), i);
        }
        WhichWindow y = new WhichWindow();
        Checks.lay(y, 0, 2, 5, 5, 5, 4);
        C.due("the last", y.judge(0), 3);
        y.put(0, 2, ALL);
        C.due("the last but one", y.judge(0), 2);
        y.put(0, 0, 4);
        C.due("all laid as the first one says", y.judge(0), 1);
        y.put(0, 1, 4);
        C.due("then the next one", y.judge(0), 2);
    }

    /** "(the first one is now, whatever is on)". */
    private static void judgeWhateverIsOn() {
        WhichWindow x = new WhichWindow();
        Checks.lamps(x, 0, 5, 23);
        Checks.lay(x, 0, 2, 0, 0, 0);
        C.due("dark", x.judge(0), -2);
        Checks.lay(x, 0, 2, ALL, ALL);
        C.due("all on", x.judge(0), -2);
        x.mend(12, 0, 1);
        C.due("all on", x.judge(0), -2);
        Checks.lay(x, 0, 2, 1, 4097, 4097);
        C.due("12 as 0", x.judge(0), -2);
        C.due("nothing is laid", x.all(0, 0), 1 | 1 << 5 | 1 << 23);
        x.mend(12, 5, 1);
        C.due("12 behind a curtain", x.judge(0), 1);
        Checks.lay(x, 0, 2, 1, 1, 1);
        C.due("12 behind a curtain", x.judge(0), -2);
    }

    /** The first night is of the step that is now: clocks and the law go by it, up to the last STEP. */
    private static void judgeFromTheStep() {
        WhichWindow x = new WhichWindow();
        x.mend(0, 0, 5);
        x.mend(0, 3, 6);
        x.mend(0, 4, 5);
        x.mend(12, 0, 6);
        Checks.law(x, "s>4");
        Checks.lay(x, 0, 2, 0, 0, 0, 0, 0, 0, 4097, 4096);
        C.due("step 5 is behind five", x.judge(0), -2);
        x.pass(5);
        C.due("step 5 is now", x.judge(0), 1);
        Checks.lay(x, 0, 2, 0, 4097, 4096);
        C.due("step 5 is now", x.judge(0), -2);
        for (int i = 0; i < 19; i++) {
            x.pass(500);
        }
        x.pass(493);
        C.due("step 9998", x.of(0, 11), 9998);
        x.mend(0, 4, 9998 % 6);
        C.due("step 9998 is now", x.judge(0), -2);
    }

    /** 178 in all: 1, 12, 12, 66, 66, 21. */
    private static void howManyFit() {
        WhichWindow x = new WhichWindow();
        x.row(0, 2, 0);
        x.row(1, 2, 1);
        Checks.lay(x, 2, 2, ALL);
        for (int shelf = 0; shelf < 3; shelf++) {
            for (int w : new int[] {0, 11, 12, 23}) {
                C.due("all fit", x.habit(shelf, w, 0), 178);
                C.due("the first is KIND 0", x.habit(shelf, w, 1), 0);
            }
        }
        // All off and on behind it: KIND 2 (12), clocks that strike at step 0 (6).
        Checks.lay(x, 3, 2, 0, 1);
        C.due("out of the dark", x.habit(3, 0, 0), 18);
        // All on and on: KIND 0, 1 (12), 3 (66), six clocks.
        Checks.lay(x, 3, 2, ALL, ALL);
        C.due("all on and on", x.habit(3, 0, 0), 1 + 12 + 66 + 6);
        // All on, off behind it: KIND 2 (12), 4 (66), clocks that do not strike at step 0 (15).
        Checks.lay(x, 3, 2, ALL, 0);
        C.due("all on and off", x.habit(3, 0, 0), 12 + 66 + 15);
        C.due("all on and off", x.habit(3, 0, 1), 2000);
        // One across is on, on behind it: KIND 1 by it, 2 by the other 11, 4 by 11 pairs, six clocks.
        Checks.lay(x, 3, 2, 1 << 23, 1);
        C.due("one across", x.habit(3, 0, 0), 1 + 11 + 11 + 6);
        C.due("one across", x.habit(3, 0, 1), 1011);
    }

    private static final int MANY = 60;

    /** Nights in which a window of a tower goes by a habit, all across at random. */
    private static long[] nights(int w, int kind, int a, int b) {
        long[] row = new long[MANY];
        int z = 4711;
        int on = 0;
        for (int i = 0; i < MANY; i++) {
            z = z * 1103515245 + 12345;
            int across = z >>> 11 & 0xFFF;
            row[i] = (long) across << (w < 12 ? 12 : 0) | (long) on << w;
            int p = across >> a & 1;
            int q = across >> b & 1;
            on = kind == 0 ? on : kind == 1 ? p : kind == 2 ? 1 - p : kind == 3 ? p & q : kind == 4 ? p ^ q
                    : i % a == b ? 1 : 0;
        }
        return row;
    }

    /** "1000 times the KIND, and ..": the least and the greatest number of each KIND, by itself. */
    private static void firstOfEachKind() {
        int[][] due = {{0, 0, 0, 0}, {1, 0, 0, 1000}, {1, 11, 11, 1011}, {2, 0, 0, 2000}, {2, 11, 11, 2011},
            {3, 0, 1, 3001}, {3, 0, 11, 3011}, {3, 1, 2, 3014}, {3, 10, 11, 3131}, {4, 0, 1, 4001}, {4, 10, 11, 4131},
            {5, 2, 0, 5020}, {5, 2, 1, 5021}, {5, 5, 4, 5054}, {5, 6, 0, 5060}, {5, 6, 5, 5065}};
        for (int[] d : due) {
            for (int w : new int[] {0, 11, 12, 23}) {
                WhichWindow x = new WhichWindow();
                Checks.lay(x, 5, 2, nights(w, d[0], d[1], d[2]));
                C.due("how many fit " + d[3] + " of " + w, x.habit(5, w, 0), 1);
                C.due("the first of " + w, x.habit(5, w, 1), d[3]);
                C.due("one alone: no lamp tells more", x.tries(5, w, 0), 0);
                C.due("one alone: no lamp tells more", x.tries(5, w, 1), 0);
            }
        }
    }

    /** KIND 5: EVERY 1 .. 6, AT below it: each one, and a window that is always on. */
    private static void clocksOfAnObject() {
        for (int every = 1; every <= 6; every++) {
            for (int at = 0; at < every; at++) {
                WhichWindow x = new WhichWindow();
                Checks.lay(x, 0, 2, nights(7, 5, every, at));
                C.due("one of EVERY " + every + ", AT " + at, x.habit(0, 7, 0), 1);
                C.due("EVERY " + every + ", AT " + at, x.habit(0, 7, 1), 5000 + 10 * every + at);
            }
        }
        WhichWindow x = new WhichWindow();
        long[] always = nights(7, 5, 1, 0);
        always[0] |= 1 << 7;
        Checks.lay(x, 0, 2, always);
        C.due("always on: as it is, and EVERY 1", x.habit(0, 7, 0), 2);
        C.due("as it is, first", x.habit(0, 7, 1), 0);
    }

    /** "steps from s now on", up to the last STEP. */
    private static void habitsFromTheStep() {
        WhichWindow x = new WhichWindow();
        Checks.lay(x, 0, 2, nights(7, 5, 6, 0));
        C.due("from 0", x.habit(0, 7, 1), 5060);
        for (int s = 1; s <= 6; s++) {
            x.pass(1);
            C.due("from " + s, x.habit(0, 7, 1), 5060 + s % 6);
        }
        for (int i = 0; i < 19; i++) {
            x.pass(500);
        }
        x.pass(493);
        C.due("the last step", x.of(0, 11), 9999);
        C.due("from 9999", x.habit(0, 7, 1), 5060 + 9999 % 6);
    }

    /** "(no CURTAINS ..)": they neither fit nor hinder; HABITS told do not count, either. */
    private static void curtainsDoNotCount() {
        WhichWindow x = new WhichWindow();
        Checks.lay(x, 0, 2, 1 << 12, 1 << 12 | 1, 1);
        int many = x.habit(0, 0, 0);
        int tried = x.tries(0, 0, 0);
        for (int w = 0; w < 24; w++) {
            x.mend(w, 5, 1);
            x.mend(w, 0, 6);
        }
        C.due("as many", x.habit(0, 0, 0), many);
        C.due("the same one", x.tries(0, 0, 0), tried);
        C.due("otherwise at 1", x.first(0, 0), 1);
        C.due("KIND 1 by 12, and such", x.habit(0, 0, 1), 1000);
    }

    /** One dark night: with one across 1 + 11 + 11 + 6 of 178 tell on, else 12 + 6 (and itself). */
    private static void triesOfOneNight() {
        WhichWindow x = new WhichWindow();
        x.row(0, 2, 1);
        for (int w : new int[] {0, 11, 12, 23}) {
            C.due("the least one across from " + w, x.tries(0, w, 0), w < 12 ? 12 : 0);
            C.due("29 of 178", x.tries(0, w, 1), 29);
        }
        x.pass(1);
        C.due("at step 1 clocks of AT 1 tell on, and EVERY 1", x.tries(0, 0, 1), 1 + 11 + 11 + 6);
        x.pass(4);
        C.due("at step 5: six, too, one of each EVERY", x.tries(0, 0, 1), 29);
        Checks.lay(x, 0, 2, ALL);
        // All on: 1 + 12 + 66 + 6 tell on: 85 and 93; one across off: 1 + 11 + 1 + 55 + 11 + 6 = 85, too.
        C.due("all on: the least", x.tries(0, 0, 0), 1);
        C.due("all on", x.tries(0, 0, 1), 85);
    }

    /** "switched at the last place SEEN .. tell most unlike things next". */
    private static void triesAtTheLastPlace() {
        WhichWindow x = new WhichWindow();
        // KIND 3 by 12 and 13, and clocks of 2 and 4 and so on fit; 13 is off at the last place.
        Checks.lay(x, 0, 2, 1 << 12 | 1 << 13, 1 | 1 << 12, 1 << 13, 1 << 12);
        C.due("13", x.tries(0, 0, 0), 13);
        C.due("two of five", x.tries(0, 0, 1), 2);
        x.put(0, 3, 1 << 13);
        C.due("12", x.tries(0, 0, 0), 12);
        x.put(0, 3, 0);
        C.due("none tells more", x.tries(0, 0, 0), 0);
        x.row(1, 2, 60);
        C.due("the sixtieth: KIND 1 by it, 4 with it", x.tries(1, 23, 1), 12);
        C.due("the least one across", x.tries(1, 23, 0), 0);
        x.put(1, 59, 1);
        C.due("0 is on at the sixtieth: 1 as well: KIND 1 by both, 3 by both, 4 by one of both", x.tries(1, 23, 1), 2 + 1 + 20);
        C.due("0 is on at the sixtieth: another one", x.tries(1, 23, 0), 1);
    }

    /** The clocks tell the night behind the last place by its step: s and the place. */
    private static void triesByTheStep() {
        WhichWindow x = new WhichWindow();
        // Dark at 0, 1, 2: ten clocks of EVERY 3 to 6 fit; AT 2 strikes next, of each EVERY. KIND 1 and 4 by one across.
        x.row(0, 2, 3);
        C.due("as it is, 12, 66, 66 and ten clocks", x.habit(0, 0, 0), 155);
        C.due("1, 11 and four clocks", x.tries(0, 0, 1), 16);
        x.pass(2);
        // Dark at 2, 3, 4: of those that fit (EVERY 4 AT 0, 1; 5 AT 0, 1, 4; 6 AT 0, 1, 4, 5; 3 AT 1) at 4 strike four.
        C.due("from step 2 on", x.habit(0, 0, 0), 155);
        C.due("from step 2 on", x.tries(0, 0, 1), 1 + 11 + 4);
        x.row(0, 2, 4);
        // Dark at 2 to 5: EVERY 4 AT 1; 5 AT 0, 1; 6 AT 0, 1, 5 fit; at 5 strike EVERY 4, 5, 6.
        C.due("four nights from step 2 on", x.habit(0, 0, 0), 145 + 6);
        C.due("four nights from step 2 on", x.tries(0, 0, 1), 1 + 11 + 3);
    }

    /** "(of like ones the least WINDOW)"; the WINDOW itself may be tried. */
    private static void triesOfLikeOnes() {
        WhichWindow x = new WhichWindow();
        long[] always = nights(7, 5, 1, 0);
        always[0] |= 1 << 7;
        Checks.lay(x, 0, 2, always);
        C.due("as it is or EVERY 1: by itself alone", x.tries(0, 7, 0), 7);
        C.due("one of two", x.tries(0, 7, 1), 1);
        long[] last = nights(23, 5, 1, 0);
        last[0] |= 1 << 23;
        Checks.lay(x, 0, 2, last);
        C.due("the last window by itself", x.tries(0, 23, 0), 23);
        C.due("one of two", x.tries(0, 23, 1), 1);
    }

    /** "NOT: none fits", "NOT (nothing is SEEN, too)". */
    private static void triesNone() {
        WhichWindow x = new WhichWindow();
        x.row(0, 2, 0);
        for (int w : new int[] {0, 23}) {
            C.due("nothing is SEEN", x.tries(0, w, 0), -2);
            C.due("nothing is SEEN", x.tries(0, w, 1), -2);
            C.due("though all fit", x.habit(0, w, 0), 178);
        }
        Checks.lay(x, 1, 2, 0, 1, 1, 0);
        C.due("none fits", x.habit(1, 0, 0), 0);
        C.due("none fits", x.habit(1, 0, 1), -2);
        C.due("none fits", x.tries(1, 0, 0), -2);
        C.due("none fits", x.tries(1, 0, 1), -2);
        C.due("of another window some do", x.habit(1, 5, 0) > 0 ? 1 : 0, 1);
        x.put(1, 2, 0);
        C.due("clocks of EVERY 3 to 6 fit", x.habit(1, 0, 0), 4);
        C.due("EVERY 3 is the first", x.habit(1, 0, 1), 5030);
    }

    /** FIRST: "(1 on)", "for the first time", "NOT: never". */
    private static void first() {
        WhichWindow x = new WhichWindow();
        for (int size : new int[] {0, 1}) {
            x.row(0, 2, size);
            C.due("a row of " + size, x.first(0, 0), -2);
        }
        Checks.lay(x, 0, 2, ALL);
        C.due("on at once is no change", x.first(0, 0), -2);
        x.row(1, 2, 60);
        for (int i = 59; i >= 0; i--) {
            x.put(1, i, 1 << 23);
            C.due("window 23 from " + i + " on", x.first(1, 23), i == 0 ? -2 : i);
            C.due("window 22", x.first(1, 22), -2);
        }
        x.put(1, 30, 0);
        C.due("off at 30", x.first(1, 23), 30);
        x.put(1, 0, 0);
        C.due("on at 1", x.first(1, 23), 1);
        x.put(1, 0, 1 << 23 | 1);
        C.due("window 0 off at 1", x.first(1, 0), 1);
        x.put(1, 1, 1);
        C.due("window 0 off at 2", x.first(1, 0), 2);
    }

    private static void game(WhichWindow x, int n, int first, int other, int many) {
        C.due("game(" + n + ", 0)", x.game(n, 0), first);
        C.due("game(" + n + ", 1)", x.game(n, 1), other);
        C.due("game(" + n + ", 2)", x.game(n, 2), many);
    }

    /** n 0 .. 20, what 0 .. 2. */
    private static void gameBounds() {
        WhichWindow x = new WhichWindow();
        game(x, 0, 0, 24, 1);
        game(x, 20, 0, 24, 1);
        for (int n : new int[] {LOW, -1, 21, 60, FAR}) {
            for (int what = 0; what < 3; what++) {
                C.due("game(" + n + ", " + what + ")", x.game(n, what), -1);
            }
            C.due("both wrong", x.game(n, 3), -1);
        }
        for (int what : new int[] {LOW, -1, 3, FAR}) {
            C.due("game(0, " + what + ")", x.game(0, what), -1);
            C.due("game(20, " + what + ")", x.game(20, what), -1);
        }
        x.mend(0, 0, 5);
        x.mend(0, 3, 6);
        x.mend(0, 4, 1);
        C.due("at 20 the clock strikes: 0 is on whatever, so 1", x.game(20, 0), 1);
        C.due("at 20", x.game(20, 2), 2);
        C.due("at 19", x.game(19, 2), 1);
    }

    /** "(of like ones the least number)": 0 .. 11, 12 for none; 12 .. 23, 24 for none. */
    private static void gameOfLikeOnes() {
        WhichWindow x = new WhichWindow();
        for (int w = 0; w < 12; w++) {
            x.mend(w, 5, 1);
        }
        game(x, 0, 0, 24, 0);
        for (int w = 12; w < 24; w++) {
            x.mend(w, 5, 1);
        }
        game(x, 0, 0, 12, 0);
        WhichWindow y = new WhichWindow();
        for (int w = 0; w < 11; w++) {
            y.lamp(w);
        }
        game(y, 0, 11, 24, 12);
        y.lamp(11);
        game(y, 0, 12, 24, 12);
        y.lamp(23);
        game(y, 0, 12, 23, 12);
        y.lamp(22);
        game(y, 0, 12, 22, 13);
        y.mend(11, 5, 1);
        game(y, 0, 11, 22, 12);
    }

    /** How many are on then: none, all of them. */
    private static void gameGreatestAndLeast() {
        WhichWindow x = new WhichWindow();
        for (int w = 0; w < 24; w++) {
            x.mend(w, 0, 5);
            x.mend(w, 3, 1);
        }
        game(x, 1, 0, 12, 24);
        game(x, 20, 0, 12, 24);
        game(x, 0, 0, 24, 1);
        for (int w = 0; w < 24; w++) {
            x.mend(w, 4, 1);
        }
        game(x, 1, 0, 12, 0);
        for (int w = 0; w < 24; w++) {
            x.mend(w, 0, 0);
            x.lamp(w);
        }
        game(x, 0, 12, 12, 23);
        game(x, 20, 12, 12, 23);
    }

    /** "then, that known": the other one answers to each; the first one looks ahead. */
    private static void gameBehindSteps() {
        WhichWindow x = new WhichWindow();
        // 0 lights 12 and 13 behind a step; 20 puts them out as well, for 12 is on if just one of both is.
        x.mend(12, 0, 1);
        x.mend(13, 0, 1);
        x.mend(13, 1, 0);
        game(x, 0, 0, 24, 1);
        game(x, 1, 0, 12, 3);
        x.mend(0, 0, 4);
        x.mend(0, 1, 20);
        x.mend(0, 2, 21);
        // Behind two steps 0 goes by 20 and 21; 12 and 13 are as 0 was behind one.
        game(x, 1, 0, 12, 2);
        game(x, 2, 1, 12, 1);
    }

    /** nm: 100 n and m, n 1 .. 20, m 1 .. 60; what 0, 1; any SEED. */
    private static void drawnBounds() {
        WhichWindow x = new WhichWindow();
        x.lamp(5);
        for (int seed : new int[] {LOW, -1, 0, 1, FAR}) {
            for (int n : new int[] {1, 2, 19, 20}) {
                for (int m : new int[] {1, 2, 59, 60}) {
                    C.due("n " + n + ", m " + m, x.drawn(seed, 100 * n + m, 0), n);
                    C.due("n " + n + ", m " + m + ", dark", x.drawn(seed, 100 * n + m, 1), 0);
                }
            }
        }
        for (int nm : new int[] {LOW, -2060, -101, -1, 0, 1, 60, 99, 100, 161, 162, 199, 200, 261, 1900, 2000, 2061,
            2099, 2100, 2101, 2160, 10001, FAR}) {
            C.due("drawn(0, " + nm + ", 0)", x.drawn(0, nm, 0), -1);
            C.due("drawn(0, " + nm + ", 1)", x.drawn(0, nm, 1), -1);
            C.due("both wrong", x.drawn(0, nm, 2), -1);
        }
        for (int what : new int[] {LOW, -1, 2, FAR}) {
            C.due("drawn(0, 101, " + what + ")", x.drawn(0, 101, what), -1);
        }
    }

    /** "if (z >>> 16) % 12 is below YAWNS (0 .. 12 ..)": SEED, the WINDOW and the number of its first draw. */
    private static void yawnsBelow() {
        int[][] draws = {{0, 0, 0}, {7, 13, 0}, {56, 8, 1}, {18, 3, 1}, {12, 5, 3}, {10, 16, 3}, {13, 19, 6}, {3, 19, 7},
            {16, 23, 9}, {8, 11, 10}, {6, 22, 10}, {17, 13, 11}, {45, 17, 11}, {66, 0, 4}, {392, 23, 0}, {213, 0, 11},
            {-1, 1, 1}, {FAR, 17, 5}, {LOW, 8, 8}};
        for (int[] d : draws) {
            WhichWindow x = new WhichWindow();
            x.lamp(d[1]);
            for (int yawns : new int[] {0, d[2], d[2] + 1, 12}) {
                x.mend(0, 6, yawns);
                boolean yawn = d[2] < yawns;
                C.due("SEED " + d[0] + ", YAWNS " + yawns, x.drawn(d[0], 101, 0), yawn ? 0 : 1);
                C.due("SEED " + d[0] + ", YAWNS " + yawns + ", dark", x.drawn(d[0], 101, 1), yawn ? 1 : 0);
            }
        }
    }

    /** "(an int; SEED at first) ahead of each STEP", a draw for each step, yawn or not, and on across nights. */
    private static void seedsThatWrap() {
        for (int seed : new int[] {0, 1, -1, 77, FAR, LOW, LOW + 1, 123456789}) {
            for (int yawns : new int[] {0, 1, 6, 11, 12}) {
                WhichWindow x = new WhichWindow();
                x.mend(0, 6, yawns);
                for (int nm : new int[] {101, 102, 160, 201, 2001, 2060, 1337}) {
                    C.due("SEED " + seed + ", nm " + nm, x.drawn(seed, nm, 0), worked(seed, nm, yawns));
                }
            }
        }
    }

    /** Two towers that stay as they are, but for the yawns: how many are on at the ends. */
    private static int worked(int seed, int nm, int yawns) {
        long z = seed;
        int ends = 0;
        for (int night = 0; night < nm / 100; night++) {
            java.util.BitSet on = new java.util.BitSet();
            for (int i = 0; i < nm % 100; i++) {
                z = z * 1103515245L + 12345 & 0xFFFFFFFFL;
                if (z / 65536 % 12 < yawns) {
                    on.flip((int) (z / 256 % 24));
                }
            }
            ends += on.cardinality();
        }
        return ends;
    }

    /** "n nights (1 .. 20) of m STEPS (1 .. 60) from now": each night from now again, by the step now. */
    private static void nightsAndSteps() {
        WhichWindow x = new WhichWindow();
        x.mend(0, 0, 5);
        x.mend(0, 3, 6);
        x.mend(0, 4, 5);
        C.due("six steps", x.drawn(0, 106, 0), 1);
        C.due("five steps", x.drawn(0, 105, 0), 0);
        C.due("sixty steps, twenty nights", x.drawn(0, 2060, 0), 20);
        C.due("fifty-nine steps", x.drawn(0, 2059, 0), 0);
        x.pass(1);
        C.due("five steps from step 1", x.drawn(0, 2005, 0), 20);
        C.due("six steps from step 1", x.drawn(0, 2006, 0), 0);
        for (int w = 0; w < 24; w++) {
            x.lamp(w);
        }
        C.due("all on but for the clock", x.drawn(5, 2001, 0), 20 * 23);
        x.mend(0, 0, 0);
        C.due("all on", x.drawn(5, 2060, 0), 20 * 24);
    }

    /** "how many nights end dark": none, all, one of two. */
    private static void darkEnds() {
        WhichWindow x = new WhichWindow();
        C.due("one", x.drawn(0, 101, 1), 1);
        C.due("twenty", x.drawn(0, 2060, 1), 20);
        x.mend(0, 6, 12);
        C.due("a yawn is not dark", x.drawn(0, 101, 1), 0);
        x.mend(0, 0, 1);
        C.due("it is off by its habit behind the step", x.drawn(0, 101, 1), 1);
        C.due("window 6 yawns next", x.drawn(0, 102, 1), 0);
        x.mend(0, 0, 0);
        x.mend(0, 5, 1);
        C.due("behind a curtain", x.drawn(0, 101, 1), 1);
        C.due("the first of two", x.drawn(0, 201, 1), 1);
        C.due("the second has one on", x.drawn(0, 201, 0), 1);
    }

    /** What is drawn changes nothing; it comes from now each time. */
    private static void drawnFromNow() {
        WhichWindow x = new WhichWindow();
        x.mend(0, 6, 12);
        int due = x.drawn(9, 2060, 0);
        C.due("again", x.drawn(9, 2060, 0), due);
        C.due("nothing is on", x.all(0, 0), 0);
        C.due("the step", x.of(0, 11), 0);
        C.due("no STEPS", x.led(0), 0);
        C.due("no switching", x.led(1), 0);
        C.due("the most", x.led(3), 0);
    }
}
