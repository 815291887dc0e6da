/** Promises 25 to 32: nights in deed, the image, changes undone and done again. */
public final class DeedTest {
    private static final Checks C = new Checks("DeedTest");
    private static final int FAR = Integer.MAX_VALUE;
    private static final int LOW = Integer.MIN_VALUE;

    public static void main(String[] args) {
        lamp();
        pass();
        lastStep();
        cut();
        led();
        image();
        imageBehindCurtains();
        undoRedo();
        forty();
        notChanges();
        C.end();
    }

    private static void lamp() {
        WhichWindow x = new WhichWindow();
        for (int w = 0; w < 24; w++) {
            C.due("lamp(" + w + ")", x.lamp(w), 1);
        }
        C.due("all on", x.all(0, 0), 16777215);
        C.due("lamp(23)", x.lamp(23), 0);
        for (int w : new int[] {-1, 24, LOW, FAR}) {
            C.due("lamp(" + w + ")", x.lamp(w), -1);
        }
        C.due("switchings", x.led(1), 25);
        x.mend(5, 5, 1);
        C.due("behind a curtain", x.lamp(5), 0);
        C.due("it counts", x.led(1), 26);
        x.mend(5, 5, 0);
        C.due("nothing was switched", x.of(5, 10), 1);
    }

    private static void pass() {
        WhichWindow x = new WhichWindow();
        x.mend(0, 0, 2);
        x.mend(12, 0, 1);
        C.due("pass(1)", x.pass(1), 1);
        C.due("pass(1)", x.pass(1), 2);
        C.due("pass(2)", x.pass(2), 0);
        C.due("pass(500)", x.pass(500), 0);
        C.due("the step", x.of(0, 11), 504);
        C.due("pass(499)", x.pass(499), 1);
        C.due("which", x.all(0, 0), 4096);
        for (int n : new int[] {0, -1, 501, LOW, FAR}) {
            C.due("pass(" + n + ")", x.pass(n), -1);
        }
        C.due("the step", x.of(0, 11), 1003);
    }

    private static void lastStep() {
        WhichWindow x = new WhichWindow();
        x.mend(0, 0, 2);
        for (int i = 0; i < 19; i++) {
            C.due("pass(500)", x.pass(500), 1);
        }
        C.due("to 10000", x.pass(500), -5);
        C.due("the step", x.of(0, 11), 9500);
        C.due("BAD ahead of STATE", x.pass(501), -1);
        C.due("to 9999", x.pass(499), 1);
        C.due("beyond", x.pass(1), -5);
        C.due("BAD ahead of STATE", x.pass(0), -1);
        C.due("the step", x.led(4), 9999);
        C.due("steps", x.led(0), 9999);
    }

    private static void cut() {
        WhichWindow x = new WhichWindow();
        C.due("in the dark", x.cut(), 0);
        Checks.lamps(x, 1, 5, 23);
        x.mend(5, 5, 1);
        C.due("two that were on", x.cut(), 2);
        C.due("all are off", x.all(0, 0), 0);
        x.mend(5, 5, 0);
        C.due("behind the curtain, too", x.all(0, 0), 0);
        C.due("cuts", x.led(2), 2);
        C.due("no step", x.led(4), 0);
    }

    private static void led() {
        WhichWindow x = new WhichWindow();
        Checks.lamps(x, 0, 1, 2, 3);
        C.due("none behind a STEP", x.led(3), 0);
        x.cut();
        x.lamp(4);
        x.mend(16, 0, 1);
        x.mend(4, 0, 1);
        x.mend(4, 1, 23);
        x.pass(3);
        C.due("the most", x.led(3), 1);
        x.mend(16, 0, 2);
        x.mend(17, 0, 2);
        x.mend(4, 0, 2);
        x.mend(4, 1, 16);
        x.pass(1);
        C.due("the most", x.led(3), 3);
        x.cut();
        x.pass(2);
        C.due("the most on the way", x.led(3), 3);
        C.due("STEPS", x.led(0), 6);
        C.due("switchings", x.led(1), 5);
        C.due("cuts", x.led(2), 2);
        C.due("the step", x.led(4), 6);
        for (int what : new int[] {-1, 5, LOW, FAR}) {
            C.due("led(" + what + ")", x.led(what), -1);
        }
    }

    private static void image() {
        WhichWindow x = new WhichWindow();
        C.due("none", x.back(), -5);
        C.due("at first", x.image(), 0);
        Checks.lamps(x, 3, 9, 20);
        x.pass(7);
        x.cut();
        x.lamp(4);
        C.due("another one", x.image(), 7);
        x.mend(4, 0, 2);
        x.mend(0, 0, 2);
        x.pass(5);
        x.lamp(11);
        x.cut();
        x.lamp(15);
        C.due("back", x.back(), 7);
        C.due("what is on", x.all(0, 0), 16);
        int[] led = {7, 4, 1, 3, 7};
        for (int i = 0; i < 5; i++) {
            C.due("led(" + i + ")", x.led(i), led[i]);
        }
        C.due("habits stay", x.of(4, 0), 2);
        C.due("changes stay", x.count(2), 2);
        x.pass(1);
        C.due("back again", x.back(), 7);
        C.due("what is on", x.all(0, 0), 16);
        C.due("the step", x.of(0, 11), 7);
    }

    private static void imageBehindCurtains() {
        WhichWindow x = new WhichWindow();
        x.lamp(3);
        x.mend(3, 5, 1);
        x.image();
        x.pass(1);
        x.back();
        C.due("off behind its curtain", x.of(3, 10), 0);
        x.mend(3, 5, 0);
        C.due("taken away ahead of a step: as it was", x.of(3, 10), 1);
    }

    private static void undoRedo() {
        WhichWindow x = new WhichWindow();
        C.due("none", x.undo(), -5);
        C.due("none", x.redo(), -5);
        x.mend(0, 0, 5);
        x.mend(0, 3, 6);
        x.mend(0, 6, 7);
        x.mend(0, 5, 1);
        C.due("undo", x.undo(), 3);
        C.due("CURTAIN", x.of(0, 5), 0);
        C.due("undo", x.undo(), 2);
        C.due("YAWNS", x.of(0, 6), 0);
        C.due("undo", x.undo(), 1);
        C.due("EVERY", x.of(0, 3), 2);
        C.due("KIND yet", x.of(0, 0), 5);
        C.due("redo", x.redo(), 2);
        C.due("EVERY", x.of(0, 3), 6);
        C.due("redo", x.redo(), 1);
        C.due("YAWNS", x.of(0, 6), 7);
        C.due("the same number is none", x.mend(0, 6, 7), 7);
        C.due("redo", x.redo(), 0);
        C.due("CURTAIN", x.of(0, 5), 1);
        C.due("no more", x.redo(), -5);
        C.due("undo", x.undo(), 3);
        C.due("another change", x.mend(1, 0, 1), 0);
        C.due("none to do again", x.redo(), -5);
        C.due("four", x.count(2), 4);
        for (int i = 3; i >= 0; i--) {
            C.due("undo", x.undo(), i);
        }
        C.due("no more", x.undo(), -5);
        C.due("KIND", x.of(0, 0), 0);
        C.due("KIND", x.of(1, 0), 0);
        for (int i = 3; i >= 0; i--) {
            C.due("redo", x.redo(), i);
        }
        C.due("no more", x.redo(), -5);
        C.due("KIND", x.of(1, 0), 1);
    }

    private static void forty() {
        WhichWindow x = new WhichWindow();
        for (int i = 1; i <= 43; i++) {
            C.due("mend", x.mend(i % 24, 0, i < 24 ? 1 : 2), i < 24 ? 0 : i == 24 ? 0 : 1);
            C.due("count(2)", x.count(2), Math.min(i, 40));
        }
        for (int i = 39; i >= 0; i--) {
            C.due("undo", x.undo(), i);
        }
        C.due("no more", x.undo(), -5);
        C.due("the first three are kept", x.of(1, 0) + x.of(2, 0) + x.of(3, 0), 3);
        C.due("the fourth is undone", x.of(4, 0), 0);
        for (int i = 39; i >= 0; i--) {
            C.due("redo", x.redo(), i);
        }
        C.due("no more", x.redo(), -5);
        C.due("the last", x.of(19, 0), 2);
        C.due("forty", x.count(2), 40);
        x.undo();
        x.undo();
        x.mend(0, 6, 3);
        C.due("thirty-nine", x.count(2), 39);
        C.due("none to do again", x.redo(), -5);
    }

    private static void notChanges() {
        WhichWindow x = new WhichWindow();
        x.mend(0, 0, 1);
        x.mend(0, 0, 2);
        x.undo();
        x.lamp(3);
        x.pass(2);
        x.cut();
        x.image();
        x.back();
        Checks.law(x, "a");
        x.mend(0, 0, 9);
        C.due("deeds and laws are none", x.count(2), 1);
        C.due("still to be done again", x.redo(), 0);
        C.due("so", x.of(0, 0), 2);
        Checks.lay(x, 0, 0, 2, 12, 13);
        x.undo();
        C.due("habits from a row", x.habits(0, 0, 1), 1);
        C.due("are changes", x.redo(), -5);
        C.due("KIND and ALSO", x.count(2), 3);
    }
}
