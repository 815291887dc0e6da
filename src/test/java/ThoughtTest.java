/** Promises 7 to 18: nights in thought. */
public final class ThoughtTest {
    private static final Checks C = new Checks("ThoughtTest");
    private static final int FAR = Integer.MAX_VALUE;
    private static final int LOW = Integer.MIN_VALUE;

    public static void main(String[] args) {
        onLetterAll();
        kinds();
        curtains();
        round();
        darkAndComes();
        set();
        curtain();
        changesAndMoved();
        canSay();
        together();
        beyondTheLastStep();
        nothingChanges();
        C.end();
    }

    /** 13 moves 1, 1 moves 12, 12 moves 0; 13 is on. */
    private static WhichWindow chain() {
        WhichWindow x = new WhichWindow();
        x.mend(1, 0, 1);
        x.mend(12, 0, 1);
        x.mend(12, 1, 1);
        x.mend(0, 0, 1);
        x.lamp(13);
        return x;
    }

    private static void onLetterAll() {
        WhichWindow x = chain();
        int[] bits = {8192, 8194, 12290, 12291, 12291};
        for (int n = 0; n < bits.length; n++) {
            C.due("all(" + n + ", 0)", x.all(n, 0), bits[n]);
            C.due("all(" + n + ", 1)", x.all(n, 1), Integer.bitCount(bits[n]));
            for (int w = 0; w < 24; w++) {
                C.due("on(" + n + ", " + w + ")", x.on(n, w), bits[n] >> w & 1);
            }
            for (int row = 0; row < 6; row++) {
                C.due("letter(" + n + ", " + row + ")", x.letter(n, row), bits[n] >> 4 * row & 15);
            }
        }
        C.due("all(500, 0)", x.all(500, 0), 12291);
        C.due("on(500, 0)", x.on(500, 0), 1);
        C.due("letter(500, 3)", x.letter(500, 3), 3);
        int[][] bad = {{-1, 0}, {501, 0}, {0, -1}, {0, 24}, {LOW, 0}, {FAR, 0}, {0, LOW}, {0, FAR}};
        for (int[] b : bad) {
            C.due("on(" + b[0] + ", " + b[1] + ")", x.on(b[0], b[1]), -1);
            C.due("letter(" + b[0] + ", " + b[1] + ")", x.letter(b[0], b[1]), -1);
            C.due("all(" + b[0] + ", " + b[1] + ")", x.all(b[0], b[1]), -1);
        }
        C.due("letter(0, 6)", x.letter(0, 6), -1);
        C.due("all(0, 2)", x.all(0, 2), -1);
    }

    /** Window 5 sees 14 and 20; each KIND for the four ways that these are on. */
    private static void kinds() {
        int[][] due = {{0, 0, 0, 0}, {0, 1, 0, 1}, {1, 0, 1, 0}, {0, 0, 0, 1}, {0, 1, 1, 0}};
        for (int kind = 0; kind < 5; kind++) {
            for (int way = 0; way < 4; way++) {
                WhichWindow x = new WhichWindow();
                x.mend(5, 0, kind);
                x.mend(5, 1, 14);
                x.mend(5, 2, 20);
                if ((way & 1) == 1) {
                    x.lamp(14);
                }
                if (way > 1) {
                    x.lamp(20);
                }
                C.due("KIND " + kind + ", way " + way, x.on(1, 5), due[kind][way]);
                x.lamp(5);
                C.due("KIND " + kind + ", way " + way + ", on ahead", x.on(1, 5), kind == 0 ? 1 : due[kind][way]);
            }
        }
        for (int every = 1; every <= 6; every++) {
            for (int at = 0; at <= 5; at++) {
                WhichWindow x = new WhichWindow();
                x.mend(20, 0, 5);
                x.mend(20, 3, every);
                x.mend(20, 4, at);
                C.due("a clock shows nothing now", x.on(0, 20), 0);
                for (int s = 0; s < 13; s++) {
                    C.due("clock " + every + ", " + at + " by step " + s, x.on(s + 1, 20), s % every == at ? 1 : 0);
                }
                x.pass(4);
                C.due("clock " + every + ", " + at + " by step 4", x.of(20, 10), 3 % every == at ? 1 : 0);
                C.due("clock " + every + ", " + at + " by step 5", x.on(1, 20), 4 % every == at ? 1 : 0);
            }
        }
    }

    private static void curtains() {
        WhichWindow x = chain();
        x.lamp(0);
        x.mend(13, 5, 1);
        C.due("off now, too", x.all(0, 0), 1);
        C.due("of", x.of(13, 10), 0);
        C.due("count", x.count(0), 1);
        C.due("seen as off", x.all(3, 0), 0);
        x.mend(13, 5, 0);
        C.due("taken away ahead of a step: as it was", x.all(0, 0), 8193);
        x.mend(13, 5, 1);
        x.pass(1);
        x.mend(13, 5, 0);
        C.due("taken away behind a step", x.all(0, 0), 0);
        WhichWindow y = new WhichWindow();
        y.mend(4, 0, 2);
        y.mend(4, 5, 1);
        y.mend(12, 0, 2);
        y.mend(12, 1, 4);
        C.due("off, whatever it does", y.all(1, 0), 4096);
        C.due("off, whatever it does", y.all(9, 0), 4096);
    }

    private static void round() {
        WhichWindow x = chain();
        C.due("round(0)", x.round(0), 3);
        C.due("round(1)", x.round(1), 1);
        WhichWindow y = new WhichWindow();
        y.mend(0, 0, 2);
        y.mend(12, 0, 1);
        C.due("a blinker's", y.round(0), 0);
        C.due("a blinker's", y.round(1), 4);
        y.mend(7, 0, 5);
        y.mend(7, 5, 1);
        C.due("with a clock, under a curtain too", y.round(1), 60);
        y.mend(7, 0, 6);
        C.due("with the law", y.round(1), 60);
        y.mend(7, 0, 4);
        C.due("without", y.round(1), 4);
        WhichWindow z = new WhichWindow();
        z.mend(3, 0, 6);
        Checks.law(z, "s>300");
        C.due("the first that comes again", z.round(0), 0);
        C.due("60 behind", z.round(1), 60);
        Checks.law(z, "s%7<3");
        C.due("by 7 and 60", z.round(0), 0);
        C.due("by 7 and 60: some multiple of 60", z.round(1) % 60, 0);
        C.due("round(2)", z.round(2), -1);
        C.due("round(-1)", z.round(-1), -1);
        neverRound();
        roundOfFiveHundred();
    }

    /** Four windows count the blocks of 60 steps; behind the last block that begins within 440 all comes again. */
    private static void roundOfFiveHundred() {
        WhichWindow x = new WhichWindow();
        for (int w = 0; w < 4; w++) {
            x.mend(w, 0, 6);
        }
        String counts = "s>498?k=3;(k=0&(s+41)/60%2)|(k=1&(s+41)/120%2)|(k=2&(s+41)/240%2)|(k=3&(s+41)/480)";
        C.due("law", Checks.law(x, counts), 1);
        C.due("both together 500", x.round(0), 440);
        C.due("both together 500", x.round(1), 60);
        Checks.law(x, counts.replace("41", "40"));
        C.due("both together 501", x.round(0), -2);
    }

    /** Windows that count the steps in twos: no night of the first 500 comes again. */
    private static void neverRound() {
        WhichWindow x = new WhichWindow();
        for (int w = 0; w < 9; w++) {
            x.mend(w, 0, 6);
        }
        Checks.law(x, "(k=0&s%2)|(k=1&s/2%2)|(k=2&s/4%2)|(k=3&s/8%2)|(k=4&s/16%2)|(k=5&s/32%2)|(k=6&s/64%2)|s/128%8>k");
        C.due("NOT within 500", x.round(0), -2);
        C.due("NOT within 500", x.round(1), -2);
    }

    private static void darkAndComes() {
        WhichWindow x = chain();
        C.due("never dark", x.dark(), -2);
        C.due("comes(2)", x.comes(2), 1);
        C.due("comes(3)", x.comes(3), 3);
        C.due("comes(302)", x.comes(302), 0);
        C.due("comes(303)", x.comes(303), 2);
        C.due("comes(1)", x.comes(1), -2);
        x.lamp(13);
        C.due("dark now", x.dark(), 0);
        x.lamp(1);
        C.due("dark behind 3: 1, 12, 0", x.dark(), 3);
        C.due("comes behind 2", x.comes(1), 2);
        WhichWindow y = new WhichWindow();
        y.mend(9, 0, 6);
        y.mend(0, 0, 6);
        y.lamp(9);
        Checks.law(y, "k=0?s=499;s<499");
        C.due("dark behind 500 but for window 0", y.dark(), -2);
        C.due("window 0 behind 500", y.comes(1), 500);
        C.due("window 9 is off then", y.comes(200), 500);
        Checks.law(y, "s<499");
        C.due("dark behind 500", y.dark(), 500);
        Checks.law(y, "s<500");
        C.due("not within 500", y.dark(), -2);
        C.due("not within 500", y.comes(200), -2);
        int[] bad = {-1, 16, 99, 116, 516, 600, 1000, LOW, FAR, -100};
        for (int rl : bad) {
            C.due("comes(" + rl + ")", x.comes(rl), -1);
            C.due("curtain(" + rl + ")", x.curtain(rl), -1);
            C.due("set(" + rl + ", 0, 0)", x.set(rl, 0, 0), -1);
        }
        C.due("comes(515)", x.comes(515), -2);
    }

    private static void set() {
        WhichWindow x = chain();
        C.due("none needed", x.set(3, 3, 0), 0);
        C.due("none needed", x.set(3, 3, 1), 0);
        C.due("the source", x.set(0, 3, 0), 1);
        C.due("the source", x.set(0, 3, 1), 8192);
        C.due("four are too many", x.set(15, 1, 0), -2);
        C.due("the first two", x.set(3, 0, 1), 3);
        C.due("two of row 0", x.set(12, 0, 0), 2);
        C.due("two of row 0", x.set(12, 0, 1), 12);
        C.due("by window 12", x.set(3, 1, 1), 4096);
        C.due("three are too many", x.set(14, 0, 0), -2);
        C.due("of like ones the least: not 13, but 2 and 3", x.set(14, 1, 1), 12);
        WhichWindow y = new WhichWindow();
        y.mend(23, 0, 1);
        y.mend(23, 1, 3);
        y.mend(22, 0, 1);
        y.mend(22, 1, 11);
        C.due("rows 5 by windows of the other tower", y.set(512, 1, 1), 1 << 11 | 1 << 3);
        y.mend(21, 0, 3);
        y.mend(21, 1, 5);
        y.mend(21, 2, 6);
        C.due("both", y.set(502, 60, 1), 1 << 5 | 1 << 6);
        C.due("both", y.set(502, 60, 0), 2);
        y.mend(6, 5, 1);
        C.due("no lamp behind a curtain", y.set(502, 60, 0), -2);
        int[][] bad = {{-1, 0}, {61, 0}, {0, -1}, {0, 2}, {LOW, 0}, {FAR, 0}, {0, FAR}};
        for (int[] b : bad) {
            C.due("set(0, " + b[0] + ", " + b[1] + ")", x.set(0, b[0], b[1]), -1);
        }
    }

    private static void curtain() {
        WhichWindow x = chain();
        C.due("curtain(3)", x.curtain(3), 0);
        C.due("curtain(2)", x.curtain(2), 1);
        C.due("curtain(302)", x.curtain(302), 13);
        C.due("curtain(303)", x.curtain(303), 1);
        C.due("curtain(1)", x.curtain(1), -3);
        C.due("curtain(0)", x.curtain(0), -2);
        C.due("no curtain is kept", x.of(0, 5), 0);
        WhichWindow y = new WhichWindow();
        y.mend(0, 0, 6);
        Checks.law(y, "s=99");
        C.due("behind 100 steps", y.curtain(1), 0);
        Checks.law(y, "s=100");
        C.due("behind 101 steps", y.curtain(1), -3);
    }

    private static void changesAndMoved() {
        WhichWindow x = chain();
        C.due("changesIt(13, 0)", x.changesIt(13, 0), 8192);
        C.due("changesIt(13, 1)", x.changesIt(13, 1), 8194);
        C.due("changesIt(13, 3)", x.changesIt(13, 3), 12291);
        C.due("changesIt(13, 60)", x.changesIt(13, 60), 12291);
        C.due("changesIt(1, 1)", x.changesIt(1, 1), 4096);
        C.due("changesIt(1, 2)", x.changesIt(1, 2), 1);
        C.due("changesIt(1, 3)", x.changesIt(1, 3), 0);
        C.due("changesIt(23, 60)", x.changesIt(23, 60), 1 << 23);
        C.due("movedBy(0, 0)", x.movedBy(0, 0), 1);
        C.due("movedBy(0, 1)", x.movedBy(0, 1), 4096);
        C.due("movedBy(0, 2)", x.movedBy(0, 2), 2);
        C.due("movedBy(0, 3)", x.movedBy(0, 3), 8192);
        C.due("movedBy(13, 60)", x.movedBy(13, 60), 8192);
        x.mend(2, 5, 1);
        C.due("a curtain", x.changesIt(2, 0), 0);
        C.due("a curtain", x.movedBy(2, 0), 0);
        WhichWindow y = new WhichWindow();
        y.mend(0, 0, 3);
        y.mend(0, 1, 20);
        y.mend(0, 2, 21);
        y.lamp(20);
        C.due("each alone: only 21", y.movedBy(0, 1), 1 << 21);
        int[][] bad = {{-1, 0}, {24, 0}, {0, -1}, {0, 61}, {LOW, 0}, {FAR, 0}, {0, LOW}, {0, FAR}};
        for (int[] b : bad) {
            C.due("changesIt(" + b[0] + ", " + b[1] + ")", x.changesIt(b[0], b[1]), -1);
            C.due("movedBy(" + b[0] + ", " + b[1] + ")", x.movedBy(b[0], b[1]), -1);
        }
    }

    private static void canSay() {
        WhichWindow x = chain();
        C.due("canSay(0, 0)", x.canSay(0, 0), 279);
        C.due("canSay(3, 0): 2, and with one", x.canSay(3, 0), 1 << 2 | 1 << 3 | 1 | 1 << 6 | 1 << 10);
        C.due("canSay(5, 60)", x.canSay(5, 60), 279);
        C.due("canSay(0, 1): 2, 3 by 12, 0, 6, 10, and now", x.canSay(0, 1), 279 | 1 << 2 | 1 << 3 | 1 << 6 | 1 << 10);
        WhichWindow y = new WhichWindow();
        y.mend(4, 5, 1);
        C.due("a curtain", y.canSay(1, 0), 1 | 1 << 2 | 1 << 4 | 1 << 8);
        int[][] bad = {{-1, 0}, {6, 0}, {0, -1}, {0, 61}, {LOW, 0}, {FAR, 0}, {0, LOW}, {0, FAR}};
        for (int[] b : bad) {
            C.due("canSay(" + b[0] + ", " + b[1] + ")", x.canSay(b[0], b[1]), -1);
        }
    }

    private static void together() {
        WhichWindow x = chain();
        C.due("together(30, 0)", x.together(30, 0), 0);
        C.due("together(30, 1)", x.together(30, 1), 1);
        C.due("together(30, 2)", x.together(30, 2), 1);
        C.due("together(3, 3)", x.together(3, 3), 2);
        C.due("together(3, 60)", x.together(3, 60), 59);
        C.due("together(45, 60)", x.together(45, 60), 61);
        int[][] bad = {{-1, 0}, {0, 0}, {11, 0}, {55, 0}, {6, 0}, {56, 0}, {60, 0}, {1, -1}, {1, 61}, {LOW, 0}, {FAR, 0},
            {-12, 0}, {100, 0}};
        for (int[] b : bad) {
            C.due("together(" + b[0] + ", " + b[1] + ")", x.together(b[0], b[1]), -1);
        }
    }

    private static void beyondTheLastStep() {
        WhichWindow x = new WhichWindow();
        for (int i = 0; i < 19; i++) {
            x.pass(500);
        }
        x.pass(499);
        C.due("the last step", x.of(0, 11), 9999);
        x.mend(0, 0, 6);
        Checks.law(x, "s=9999+500-1");
        C.due("thought goes on", x.on(500, 0), 1);
        C.due("thought goes on", x.comes(1), 500);
    }

    private static void nothingChanges() {
        WhichWindow x = chain();
        x.mend(5, 0, 6);
        x.all(500, 0);
        x.on(7, 3);
        x.letter(9, 2);
        x.round(0);
        x.dark();
        x.comes(5);
        x.set(14, 60, 0);
        x.curtain(3);
        x.changesIt(3, 60);
        x.movedBy(3, 60);
        x.canSay(3, 60);
        x.together(12, 60);
        x.game(20, 0);
        x.drawn(9, 2060, 0);
        C.due("what is on", x.all(0, 0), 8192);
        C.due("the step", x.of(0, 11), 0);
        C.due("changes", x.count(2), 5);
        for (int i = 0; i < 5; i++) {
            C.due("led(" + i + ")", x.led(i), i == 1 ? 1 : 0);
        }
    }
}
