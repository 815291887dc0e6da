/** Terms 4 (but DRAWN) and promises 25 to 32, sentence by sentence. */
public final class EdgeDeedTest {
    private static final Checks C = new Checks("EdgeDeedTest");
    private static final int FAR = Integer.MAX_VALUE;
    private static final int LOW = Integer.MIN_VALUE;

    public static void main(String[] args) {
        lampBounds();
        lampBehindACurtain();
        passBounds();
        passToTheLastStep();
        passAnswersHowMany();
        cutNoneAndAll();
        cutIsNoStep();
        ledBounds();
        ledMostBehindAStep();
        ledCountsWhatIsRefusedNot();
        noImage();
        imageOfEachPart();
        imageAgainAndAgain();
        imageKeepsNoHabits();
        imageAtTheLastStep();
        noneToUndo();
        undoOfEachWhat();
        latestFirst();
        sameNumberIsNone();
        asLongAsNoOtherCame();
        fortyAtMost();
        fortyUndone();
        fortyAndOthers();
        deedsAreNone();
        C.end();
    }

    /** "SWITCH: 1, 0 .. BAD": WINDOWS 0 .. 23. */
    private static void lampBounds() {
        WhichWindow x = new WhichWindow();
        for (int w : new int[] {LOW, -1, 24, 25, FAR}) {
            C.due("lamp(" + w + ")", x.lamp(w), -1);
        }
        C.due("nothing is on", x.all(0, 0), 0);
        C.due("no switching", x.led(1), 0);
        for (int w = 0; w < 24; w++) {
            C.due("lamp(" + w + ")", x.lamp(w), 1);
            C.due("of(" + w + ", 10)", x.of(w, 10), 1);
        }
        C.due("all on", x.count(0), 24);
        for (int w = 0; w < 24; w++) {
            C.due("lamp(" + w + ") again", x.lamp(w), 0);
            C.due("of(" + w + ", 10)", x.of(w, 10), 0);
        }
        C.due("switchings", x.led(1), 48);
        C.due("no STEP", x.led(0), 0);
        C.due("no change", x.count(2), 0);
    }

    /** "(CURTAIN: 0, nothing is switched, though it counts)". */
    private static void lampBehindACurtain() {
        WhichWindow x = new WhichWindow();
        x.lamp(0);
        x.mend(0, 5, 1);
        x.mend(23, 5, 1);
        for (int i = 1; i <= 3; i++) {
            C.due("lamp(0)", x.lamp(0), 0);
            C.due("lamp(23)", x.lamp(23), 0);
            C.due("it counts", x.led(1), 1 + 2 * i);
        }
        C.due("none on", x.count(0), 0);
        x.mend(0, 5, 0);
        x.mend(23, 5, 0);
        C.due("on as ahead", x.of(0, 10), 1);
        C.due("off as ahead", x.of(23, 10), 0);
        C.due("without a curtain", x.lamp(23), 1);
    }

    /** "(n 1 .. 500)": BAD. */
    private static void passBounds() {
        WhichWindow x = new WhichWindow();
        for (int n : new int[] {LOW, -500, -1, 0, 501, 502, 9999, 10000, FAR}) {
            C.due("pass(" + n + ")", x.pass(n), -1);
            C.due("the step", x.of(0, 11), 0);
        }
        C.due("no STEPS", x.led(0), 0);
        C.due("pass(1)", x.pass(1), 0);
        C.due("the step", x.of(0, 11), 1);
        C.due("pass(2)", x.pass(2), 0);
        C.due("the step", x.of(0, 11), 3);
        C.due("pass(499)", x.pass(499), 0);
        C.due("the step", x.of(0, 11), 502);
        C.due("pass(500)", x.pass(500), 0);
        C.due("the step", x.of(0, 11), 1002);
        C.due("STEPS", x.led(0), 1002);
    }

    /** "STATE: the step would be more than 9999"; BAD is named ahead of it. */
    private static void passToTheLastStep() {
        WhichWindow x = new WhichWindow();
        x.mend(7, 0, 2);
        for (int i = 0; i < 19; i++) {
            C.due("pass(500)", x.pass(500), 1);
        }
        C.due("9500 and 500", x.pass(500), -5);
        C.due("BAD", x.pass(501), -1);
        C.due("9500 still", x.led(4), 9500);
        C.due("STEPS", x.led(0), 9500);
        C.due("9998", x.pass(498), 1);
        C.due("9998 and 2", x.pass(2), -5);
        C.due("9998 still", x.of(0, 11), 9998);
        C.due("9999", x.pass(1), 1);
        for (int n : new int[] {1, 2, 499, 500}) {
            C.due("9999 and " + n, x.pass(n), -5);
        }
        for (int n : new int[] {LOW, -1, 0, 501, FAR}) {
            C.due("BAD ahead of STATE " + n, x.pass(n), -1);
        }
        C.due("9999 still", x.of(0, 11), 9999);
        C.due("STEPS", x.led(0), 9999);
        C.due("what is on stays", x.all(0, 0), 1 << 7);
    }

    /** "n STEPS pass: how many are on." */
    private static void passAnswersHowMany() {
        WhichWindow x = new WhichWindow();
        C.due("none", x.pass(1), 0);
        for (int w = 0; w < 24; w++) {
            x.mend(w, 0, 2);
        }
        C.due("all", x.pass(1), 24);
        C.due("none", x.pass(1), 0);
        C.due("all", x.pass(499), 24);
        C.due("all behind two", x.pass(2), 24);
        for (int w = 0; w < 23; w++) {
            x.mend(w, 5, 1);
        }
        C.due("one without a curtain: its window is off", x.pass(1), 1);
        C.due("that one", x.all(0, 0), 1 << 23);
    }

    /** "A POWER CUT: how many were on", none and all. */
    private static void cutNoneAndAll() {
        WhichWindow x = new WhichWindow();
        C.due("none were on", x.cut(), 0);
        C.due("it counts", x.led(2), 1);
        for (int w = 0; w < 24; w++) {
            x.lamp(w);
        }
        C.due("all were on", x.cut(), 24);
        C.due("all are off", x.all(0, 0), 0);
        C.due("twice dark", x.cut(), 0);
        C.due("three cuts", x.led(2), 3);
        for (int w = 0; w < 24; w++) {
            C.due("off", x.of(w, 10), 0);
        }
        Checks.lamps(x, 0, 23);
        x.mend(23, 5, 1);
        C.due("one behind a curtain was not on", x.cut(), 1);
    }

    /** A cut is neither a STEP nor a switching nor a change; HABITS go on behind it. */
    private static void cutIsNoStep() {
        WhichWindow x = new WhichWindow();
        x.mend(3, 0, 2);
        x.pass(1);
        C.due("one", x.cut(), 1);
        C.due("the step", x.of(0, 11), 1);
        C.due("STEPS", x.led(0), 1);
        C.due("switchings", x.led(1), 0);
        C.due("one change", x.count(2), 1);
        C.due("KIND", x.of(3, 0), 2);
        C.due("on again", x.pass(1), 1);
    }

    /** "LED: .. (what 0) .. (4). BAD." */
    private static void ledBounds() {
        WhichWindow x = new WhichWindow();
        for (int what : new int[] {LOW, -1, 5, 6, FAR}) {
            C.due("led(" + what + ")", x.led(what), -1);
        }
        for (int what = 0; what < 5; what++) {
            C.due("led(" + what + ") at first", x.led(what), 0);
        }
        x.mend(1, 0, 2);
        x.pass(3);
        x.lamp(1);
        x.lamp(2);
        x.cut();
        x.cut();
        x.cut();
        x.pass(2);
        int[] due = {5, 2, 3, 1, 5};
        for (int what = 0; what < 5; what++) {
            C.due("led(" + what + ")", x.led(what), due[what]);
        }
    }

    /** "the most that were on behind a STEP": not by a lamp alone; on the way, not at the end alone. */
    private static void ledMostBehindAStep() {
        WhichWindow x = new WhichWindow();
        Checks.lamps(x, 0, 1, 2, 3, 4);
        C.due("lamps are no STEP", x.led(3), 0);
        x.cut();
        x.lamp(0);
        x.pass(1);
        C.due("one", x.led(3), 1);
        Checks.lamps(x, 1, 2);
        C.due("one still", x.led(3), 1);
        x.pass(1);
        C.due("three", x.led(3), 3);
        x.cut();
        x.pass(1);
        C.due("three still", x.led(3), 3);
        for (int w = 0; w < 24; w++) {
            x.mend(w, 0, 2);
        }
        C.due("on and off", x.pass(2), 0);
        C.due("twenty-four on the way", x.led(3), 24);
        WhichWindow y = new WhichWindow();
        Checks.lamps(y, 0, 1, 2);
        y.mend(0, 5, 1);
        y.pass(1);
        C.due("not behind a curtain", y.led(3), 2);
    }

    private static void ledCountsWhatIsRefusedNot() {
        WhichWindow x = new WhichWindow();
        x.lamp(24);
        x.lamp(-1);
        x.pass(0);
        x.pass(501);
        x.back();
        for (int what = 0; what < 5; what++) {
            C.due("led(" + what + ")", x.led(what), 0);
        }
        x.set(1, 60, 0);
        x.all(500, 0);
        x.game(20, 0);
        x.drawn(1, 2060, 0);
        x.changesIt(0, 60);
        for (int what = 0; what < 5; what++) {
            C.due("thought is no deed " + what, x.led(what), 0);
        }
    }

    /** "It is laid back: the step. STATE: there is none." */
    private static void noImage() {
        WhichWindow x = new WhichWindow();
        C.due("none", x.back(), -5);
        x.lamp(3);
        x.pass(4);
        C.due("none yet", x.back(), -5);
        C.due("what is on stays", x.all(0, 0), 8);
        C.due("the step stays", x.of(0, 11), 4);
        C.due("image at 4", x.image(), 4);
        C.due("back at 4", x.back(), 4);
    }

    /** "AN IMAGE keeps what is on, the step, what LED tells." */
    private static void imageOfEachPart() {
        WhichWindow x = new WhichWindow();
        C.due("at first", x.image(), 0);
        Checks.lamps(x, 0, 11, 12, 23);
        x.pass(500);
        x.cut();
        x.lamp(5);
        C.due("the first one back", x.back(), 0);
        C.due("dark", x.all(0, 0), 0);
        for (int what = 0; what < 5; what++) {
            C.due("led(" + what + ")", x.led(what), 0);
        }
        C.due("the step", x.of(0, 11), 0);
        Checks.lamps(x, 0, 11, 12, 23);
        x.pass(2);
        x.cut();
        Checks.lamps(x, 23, 0);
        C.due("a second one", x.image(), 2);
        Checks.lamps(x, 0, 1, 2, 3, 4, 5, 6);
        x.pass(7);
        x.cut();
        C.due("back", x.back(), 2);
        C.due("what was on", x.all(0, 0), 1 << 23 | 1);
        int[] due = {2, 6, 1, 4, 2};
        for (int what = 0; what < 5; what++) {
            C.due("led(" + what + ")", x.led(what), due[what]);
        }
        C.due("the step", x.of(0, 11), 2);
        C.due("on from there", x.pass(1), 2);
        C.due("the step", x.led(4), 3);
    }

    /** One image: the latest; it is there still behind back(). */
    private static void imageAgainAndAgain() {
        WhichWindow x = new WhichWindow();
        x.lamp(1);
        x.image();
        x.lamp(2);
        C.due("the latest", x.image(), 0);
        x.lamp(3);
        for (int i = 1; i <= 3; i++) {
            x.pass(i);
            x.lamp(4);
            C.due("back", x.back(), 0);
            C.due("1 and 2", x.all(0, 0), 6);
        }
        C.due("two switchings", x.led(1), 2);
        C.due("an image of it", x.image(), 0);
        C.due("back", x.back(), 0);
        C.due("1 and 2", x.all(0, 0), 6);
    }

    /** HABITS, YAWNS, CHANGES, THE TAPE, BODIES, SHELVES are none of it. */
    private static void imageKeepsNoHabits() {
        WhichWindow x = new WhichWindow();
        x.mend(0, 0, 6);
        x.image();
        x.mend(0, 1, 20);
        x.mend(0, 6, 4);
        x.undo();
        Checks.law(x, "1");
        x.feed('a');
        x.body(3);
        x.row(0, 0, 5);
        x.back();
        C.due("SEES", x.of(0, 1), 20);
        C.due("YAWNS", x.of(0, 6), 0);
        C.due("two changes", x.count(2), 2);
        C.due("one to do again", x.redo(), 0);
        C.due("a byte", x.count(1), 1);
        C.due("a body", x.count(3), 1);
        C.due("a row", x.element(0, 4), 0);
        C.due("the law", x.on(1, 0), 1);
        x.mend(5, 5, 1);
        x.lamp(6);
        x.image();
        x.mend(6, 5, 1);
        x.back();
        C.due("a curtain put up behind it stays", x.of(6, 5), 1);
        C.due("and hides", x.of(6, 10), 0);
    }

    private static void imageAtTheLastStep() {
        WhichWindow x = new WhichWindow();
        x.image();
        for (int i = 0; i < 19; i++) {
            x.pass(500);
        }
        x.pass(499);
        C.due("no more", x.pass(1), -5);
        C.due("back to 0", x.back(), 0);
        C.due("there is room again", x.pass(500), 0);
        for (int i = 0; i < 18; i++) {
            x.pass(500);
        }
        x.pass(499);
        C.due("image at 9999", x.image(), 9999);
        C.due("no more", x.pass(1), -5);
        C.due("back at 9999", x.back(), 9999);
    }

    /** "UNDONE: how many may still be. STATE: none." "DONE AGAIN: how many may still be. STATE: none." */
    private static void noneToUndo() {
        WhichWindow x = new WhichWindow();
        C.due("undo", x.undo(), -5);
        C.due("redo", x.redo(), -5);
        x.mend(0, 0, 1);
        C.due("one may be undone", x.count(2), 1);
        C.due("none to do again", x.redo(), -5);
        C.due("still one", x.count(2), 1);
        C.due("undo", x.undo(), 0);
        C.due("none more", x.undo(), -5);
        C.due("KIND 0", x.of(0, 0), 0);
        C.due("redo", x.redo(), 0);
        C.due("none more", x.redo(), -5);
        C.due("KIND 1", x.of(0, 0), 1);
        C.due("one may be undone", x.count(2), 1);
    }

    /** "(all of HABITS, YAWNS ..)". */
    private static void undoOfEachWhat() {
        int[][] told = {{5, 0, 6, 0}, {5, 1, 23, 17}, {5, 2, 12, 17}, {5, 3, 6, 2}, {5, 4, 5, 0}, {5, 5, 1, 0},
            {0, 6, 12, 0}, {23, 0, 6, 0}, {23, 1, 0, 11}, {23, 2, 10, 11}, {23, 3, 1, 2}, {23, 4, 5, 0}, {23, 5, 1, 0}};
        WhichWindow x = new WhichWindow();
        for (int[] t : told) {
            C.due("mend", x.mend(t[0], t[1], t[2]), t[3]);
        }
        for (int i = told.length - 1; i >= 0; i--) {
            int[] t = told[i];
            C.due("undo", x.undo(), i);
            C.due("as it was", x.of(t[0], t[1]), t[3]);
        }
        for (int i = 0; i < told.length; i++) {
            int[] t = told[i];
            C.due("redo", x.redo(), told.length - 1 - i);
            C.due("so again", x.of(t[0], t[1]), t[2]);
            C.due("may be undone", x.count(2), i + 1);
        }
    }

    /** "the latest first": of one number told several times, too. */
    private static void latestFirst() {
        WhichWindow x = new WhichWindow();
        for (int kind = 1; kind <= 6; kind++) {
            x.mend(11, 0, kind);
        }
        for (int kind = 5; kind >= 0; kind--) {
            C.due("undo", x.undo(), kind);
            C.due("KIND", x.of(11, 0), kind);
        }
        for (int kind = 1; kind <= 6; kind++) {
            C.due("redo", x.redo(), 6 - kind);
            C.due("KIND", x.of(11, 0), kind);
        }
    }

    /** "(.. telling the same number is none)": what was undone can be done again still. */
    private static void sameNumberIsNone() {
        WhichWindow x = new WhichWindow();
        x.mend(3, 3, 5);
        x.mend(3, 4, 4);
        x.undo();
        C.due("the same EVERY", x.mend(3, 3, 5), 5);
        C.due("the same AT", x.mend(3, 4, 0), 0);
        C.due("the same YAWNS", x.mend(0, 6, 0), 0);
        C.due("one change", x.count(2), 1);
        C.due("redo", x.redo(), 0);
        C.due("AT", x.of(3, 4), 4);
        C.due("the same AT", x.mend(3, 4, 4), 4);
        C.due("two changes", x.count(2), 2);
        C.due("there and back are two", x.mend(3, 4, 0), 4);
        C.due("there and back are two", x.mend(3, 4, 4), 0);
        C.due("four changes", x.count(2), 4);
    }

    /** "DONE AGAIN (as long as no other came behind)". */
    private static void asLongAsNoOtherCame() {
        WhichWindow x = new WhichWindow();
        x.mend(0, 0, 1);
        x.mend(0, 0, 2);
        x.mend(0, 0, 3);
        x.undo();
        x.undo();
        C.due("BAD is none", x.mend(0, 0, 7), -1);
        C.due("redo", x.redo(), 1);
        C.due("KIND 2", x.of(0, 0), 2);
        C.due("another", x.mend(1, 0, 1), 0);
        C.due("none to do again", x.redo(), -5);
        C.due("KIND 2 still", x.of(0, 0), 2);
        C.due("three", x.count(2), 3);
        C.due("undo", x.undo(), 2);
        C.due("redo of the other one", x.redo(), 0);
        C.due("KIND of 1", x.of(1, 0), 1);
        x.undo();
        x.undo();
        x.undo();
        C.due("all undone, and the same as was done", x.mend(0, 0, 1), 0);
        C.due("is another one", x.redo(), -5);
        C.due("one", x.count(2), 1);
    }

    /** 39, 40, 41 and more changes: "40 at most are kept". */
    private static void fortyAtMost() {
        for (int many : new int[] {39, 40, 41, 42, 80, 81}) {
            WhichWindow x = new WhichWindow();
            for (int i = 1; i <= many; i++) {
                x.mend(0, 6, i % 13);
                C.due("of " + i, x.count(2), Math.min(i, 40));
            }
            int kept = Math.min(many, 40);
            for (int left = kept - 1; left >= 0; left--) {
                C.due("undo", x.undo(), left);
            }
            C.due("none more", x.undo(), -5);
            C.due("YAWNS ahead of the kept ones", x.of(0, 6), (many - kept) % 13);
            for (int left = kept - 1; left >= 0; left--) {
                C.due("redo", x.redo(), left);
            }
            C.due("none more", x.redo(), -5);
            C.due("YAWNS behind all", x.of(0, 6), many % 13);
        }
    }

    /** Forty undone, and one more told: the forty are gone. */
    private static void fortyUndone() {
        WhichWindow x = new WhichWindow();
        for (int i = 1; i <= 45; i++) {
            x.mend(0, 6, i % 13);
        }
        for (int i = 0; i < 40; i++) {
            x.undo();
        }
        C.due("none", x.count(2), 0);
        C.due("YAWNS", x.of(0, 6), 5);
        C.due("one told", x.mend(0, 6, 9), 5);
        C.due("none to do again", x.redo(), -5);
        C.due("one", x.count(2), 1);
        C.due("undo", x.undo(), 0);
        C.due("none more", x.undo(), -5);
        C.due("YAWNS", x.of(0, 6), 5);
        C.due("redo", x.redo(), 0);
        C.due("YAWNS", x.of(0, 6), 9);
    }

    /** One undone of forty and one told: forty again, the oldest one kept. */
    private static void fortyAndOthers() {
        WhichWindow x = new WhichWindow();
        for (int i = 1; i <= 40; i++) {
            x.mend(0, 6, i % 13);
        }
        x.undo();
        C.due("another", x.mend(5, 0, 1), 0);
        C.due("forty", x.count(2), 40);
        for (int left = 39; left >= 0; left--) {
            C.due("undo", x.undo(), left);
        }
        C.due("all the way", x.of(0, 6), 0);
        C.due("redo", x.redo(), 39);
        C.due("the first one", x.of(0, 6), 1);
    }

    /** "deeds are none": nor THE LAW, THE TAPE, BODIES, SHELVES. */
    private static void deedsAreNone() {
        WhichWindow x = new WhichWindow();
        x.mend(9, 0, 3);
        x.mend(9, 0, 4);
        x.undo();
        x.lamp(9);
        x.pass(5);
        x.cut();
        x.image();
        x.back();
        Checks.law(x, "a;");
        Checks.law(x, "a");
        x.body(0);
        x.act(0, 3, 1);
        x.keep(0, 0);
        x.row(1, 0, 3);
        x.put(1, 0, 1);
        x.shift(1, 0, 1, 1, 2);
        x.habits(1, 0, 1);
        x.habits(1, 0, 0);
        C.due("one change", x.count(2), 1);
        C.due("redo", x.redo(), 0);
        C.due("KIND 4", x.of(9, 0), 4);
        x.lamp(9);
        C.due("undo puts out no lamp", x.undo(), 1);
        C.due("9 by its lamp", x.of(9, 10), 1);
        C.due("the step", x.of(0, 11), 5);
    }
}
