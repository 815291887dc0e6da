import java.util.ArrayList;
import java.util.List;
import java.util.function.ToLongFunction;

/**
 * "What is answered so changes nothing": each refused call is made on an object that has lived, and all
 * that can be read of it then is held against a twin that was not asked. So is each call that only tells.
 */
public final class RefusedTest {
    private static final Checks C = new Checks("RefusedTest");
    private static final int FAR = Integer.MAX_VALUE;
    private static final int LOW = Integer.MIN_VALUE;
    /** The answers that are no refusals, in a row of dues. */
    private static final long ANY = Long.MAX_VALUE;

    public static void main(String[] args) {
        List<Long> fresh = print(new WhichWindow());
        List<Long> lived = print(lived());
        List<Long> full = print(full());
        List<Long> late = print(late());
        C.due("the prints differ", fresh.equals(lived) || fresh.equals(full) || fresh.equals(late) ? 1 : 0, 0);
        C.due("the same again", lived.equals(print(lived())) && late.equals(print(late())) ? 1 : 0, 1);
        for (Call call : refused()) {
            hold(call, lived(), lived, "lived");
        }
        for (Call call : told()) {
            hold(call, lived(), lived, "lived");
            hold(call, late(), late, "late");
            hold(call, new WhichWindow(), fresh, "fresh");
        }
        for (Call call : refusedAtFirst()) {
            hold(call, new WhichWindow(), fresh, "fresh");
        }
        for (Call call : refusedWhenFull()) {
            hold(call, full(), full, "full");
        }
        for (Call call : refusedLate()) {
            hold(call, late(), late, "late");
        }
        C.end();
    }

    private static final class Call {
        final String name;
        final long due;
        final ToLongFunction<WhichWindow> made;

        Call(String name, long due, ToLongFunction<WhichWindow> made) {
            this.name = name;
            this.due = due;
            this.made = made;
        }
    }

    private static void hold(Call call, WhichWindow x, List<Long> twin, String of) {
        long got = call.made.applyAsLong(x);
        if (call.due != ANY) {
            C.due(call.name + " of " + of, got, call.due);
        }
        C.due(call.name + " changes nothing of " + of, print(x).equals(twin) ? 1 : 0, 1);
    }

    /** Everything that a caller can read, the tape, the image and the changes at the end. */
    private static List<Long> print(WhichWindow x) {
        List<Long> all = new ArrayList<>();
        for (int w = 0; w < 24; w++) {
            for (int what = 0; what < 6; what++) {
                all.add((long) x.of(w, what));
            }
        }
        for (int i = 0; i < 5; i++) {
            all.add((long) x.led(i));
            all.add((long) x.count(i));
        }
        for (int i = 0; i < 15; i++) {
            all.add((long) x.trace(i));
        }
        for (int shelf = 0; shelf < 6; shelf++) {
            all.add((long) x.taken(shelf, 0));
            for (int i : new int[] {0, 1, 2, 5, 6}) {
                all.add(x.element(shelf, i));
            }
            all.add((long) x.shift(shelf, 0, shelf, 0, 0));
        }
        all.add((long) x.of(0, 6));
        for (int n : new int[] {0, 1, 2, 7, 60}) {
            all.add((long) x.all(n, 0));
        }
        all.add((long) x.back());
        all.add((long) x.all(0, 0));
        for (int i = 0; i < 5; i++) {
            all.add((long) x.led(i));
        }
        changes(x, all);
        all.add((long) x.law());
        all.add((long) x.all(1, 0));
        for (int w = 0; w < 24; w++) {
            x.mend(w, 5, 0);
        }
        all.add((long) x.all(0, 0));
        return all;
    }

    /** All that may be done again, then all that may be undone, then that again. */
    private static void changes(WhichWindow x, List<Long> all) {
        for (int way = 0; way < 3; way++) {
            long left = 0;
            for (int i = 0; i < 42 && left >= 0; i++) {
                left = way == 1 ? x.undo() : x.redo();
                all.add(left);
                if (i % 4 == 0) {
                    all.add((long) x.of(0, 0) * 1000 + x.of(0, 6));
                }
            }
        }
    }

    /** Habits, a law, lamps, nights, an image, a tape, bodies, every sort of shelf, changes to do again. */
    private static WhichWindow lived() {
        WhichWindow x = new WhichWindow();
        x.mend(0, 0, 6);
        x.mend(12, 0, 1);
        x.mend(13, 0, 4);
        x.mend(13, 1, 0);
        x.mend(1, 0, 5);
        x.mend(2, 5, 1);
        Checks.law(x, "a+s%3&!m");
        Checks.lamps(x, 0, 2, 5, 13, 22);
        x.pass(7);
        x.image();
        x.cut();
        Checks.lamps(x, 3, 4, 17);
        x.mend(4, 5, 1);
        x.mend(0, 6, 3);
        x.mend(0, 6, 5);
        x.undo();
        Checks.feed(x, "k;");
        x.body(7);
        x.body(3);
        x.keep(1, 0);
        Checks.lay(x, 2, 2, 8, 24, 24, 0);
        Checks.lay(x, 3, 0, 1, 13, 14, 2, 15, 16);
        Checks.lay(x, 4, 3, 5, Long.MIN_VALUE, 7);
        Checks.lay(x, 5, 2, 8, -1);
        x.act(0, 3, 5);
        return x;
    }

    /** Forty changes and more, the last step. */
    private static WhichWindow late() {
        WhichWindow x = new WhichWindow();
        for (int i = 0; i < 41; i++) {
            x.mend(i % 24, 0, i < 24 ? 2 : 3);
        }
        for (int i = 0; i < 20; i++) {
            x.pass(i < 19 ? 500 : 499);
        }
        return x;
    }

    /** A full tape, fifty bodies. */
    private static WhichWindow full() {
        WhichWindow x = new WhichWindow();
        for (int i = 0; i < 120; i++) {
            x.feed(i % 2 == 0 ? 'a' : '+');
        }
        for (int i = 0; i < 50; i++) {
            x.body(i % 8);
        }
        return x;
    }

    private static List<Call> refused() {
        List<Call> all = new ArrayList<>();
        habits(all);
        thought(all);
        seen(all);
        deeds(all);
        shelves(all);
        return all;
    }

    private static void add(List<Call> all, String name, long due, ToLongFunction<WhichWindow> made) {
        all.add(new Call(name, due, made));
    }

    private static void habits(List<Call> all) {
        int[][] mends = {{-1, 0, 1}, {24, 0, 1}, {0, -1, 1}, {0, 7, 1}, {0, 0, 7}, {0, 0, -1}, {0, 1, 11}, {0, 1, 24},
            {12, 2, -1}, {12, 2, 12}, {0, 3, 0}, {0, 3, 7}, {0, 4, -1}, {0, 4, 6}, {0, 5, -1}, {0, 5, 2}, {0, 6, -1},
            {0, 6, 13}, {1, 6, 1}, {LOW, LOW, LOW}, {FAR, FAR, FAR}};
        for (int[] m : mends) {
            add(all, "mend(" + m[0] + ", " + m[1] + ", " + m[2] + ")", -1, x -> x.mend(m[0], m[1], m[2]));
        }
        for (int[] o : new int[][] {{-1, 0}, {24, 5}, {0, 7}, {1, 6}, {1, 11}, {0, 12}, {24, 10}}) {
            add(all, "of(" + o[0] + ", " + o[1] + ")", -1, x -> x.of(o[0], o[1]));
        }
        int[][] habits = {{-1, 0, 1, -1}, {6, 0, 1, -1}, {3, 0, 0, -1}, {3, 0, 25, -1}, {3, 0, -1, -1}, {1, 0, 1, -12},
            {2, 0, 1, -12}, {4, 0, 1, -12}, {5, 0, 1, -12}, {0, 0, 24, 0}, {3, 1, 24, 0}, {3, 6, 24, 0}, {3, -1, 24, 0},
            {3, 4, 24, 0}, {3, 0, 1224, 0}};
        for (int[] h : habits) {
            add(all, "habits(" + h[0] + ", " + h[1] + ", " + h[2] + ")", h[3], x -> x.habits(h[0], h[1], h[2]));
        }
        for (int letter : new int[] {LOW, -1, 256, FAR}) {
            add(all, "feed(" + letter + ")", -1, x -> x.feed(letter));
        }
    }

    private static void thought(List<Call> all) {
        for (int n : new int[] {LOW, -1, 501, FAR}) {
            add(all, "on(" + n + ", 0)", -1, x -> x.on(n, 0));
            add(all, "letter(" + n + ", 0)", -1, x -> x.letter(n, 0));
            add(all, "all(" + n + ", 0)", -1, x -> x.all(n, 0));
            add(all, "set(1, " + n + ", 0)", -1, x -> x.set(1, n, 0));
            add(all, "changesIt(0, " + n + ")", -1, x -> x.changesIt(0, n));
            add(all, "movedBy(0, " + n + ")", -1, x -> x.movedBy(0, n));
            add(all, "canSay(0, " + n + ")", -1, x -> x.canSay(0, n));
            add(all, "together(1, " + n + ")", -1, x -> x.together(1, n));
            add(all, "game(" + n + ", 0)", -1, x -> x.game(n, 0));
            add(all, "drawn(1, " + n + ", 0)", n == 501 ? ANY : -1, x -> x.drawn(1, n, 0));
        }
        for (int no : new int[] {LOW, -1, 24, FAR}) {
            add(all, "on(0, " + no + ")", -1, x -> x.on(0, no));
            add(all, "letter(0, " + no + ")", -1, x -> x.letter(0, no));
            add(all, "all(0, " + no + ")", -1, x -> x.all(0, no));
            add(all, "round(" + no + ")", -1, x -> x.round(no));
            add(all, "comes(" + no + ")", -1, x -> x.comes(no));
            add(all, "curtain(" + no + ")", -1, x -> x.curtain(no));
            add(all, "set(" + no + ", 0, 0)", -1, x -> x.set(no, 0, 0));
            add(all, "set(0, 0, " + no + ")", -1, x -> x.set(0, 0, no));
            add(all, "changesIt(" + no + ", 0)", -1, x -> x.changesIt(no, 0));
            add(all, "movedBy(" + no + ", 0)", -1, x -> x.movedBy(no, 0));
            add(all, "canSay(" + no + ", 0)", -1, x -> x.canSay(no, 0));
            add(all, "together(" + no + ", 0)", no == 24 ? ANY : -1, x -> x.together(no, 0));
            add(all, "game(0, " + no + ")", -1, x -> x.game(0, no));
            add(all, "drawn(1, 101, " + no + ")", -1, x -> x.drawn(1, 101, no));
        }
    }

    private static void seen(List<Call> all) {
        int[][] shelves = {{-1, -1}, {6, -1}, {0, -11}, {1, -12}, {3, -12}, {4, -12}, {5, -5}};
        for (int[] s : shelves) {
            add(all, "judge(" + s[0] + ")", s[1], x -> x.judge(s[0]));
            add(all, "habit(" + s[0] + ", 0, 0)", s[1], x -> x.habit(s[0], 0, 0));
            add(all, "tries(" + s[0] + ", 0, 0)", s[1], x -> x.tries(s[0], 0, 0));
            add(all, "first(" + s[0] + ", 0)", s[1], x -> x.first(s[0], 0));
            add(all, "habit(" + s[0] + ", 24, 0)", -1, x -> x.habit(s[0], 24, 0));
            add(all, "tries(" + s[0] + ", 0, 2)", -1, x -> x.tries(s[0], 0, 2));
            add(all, "first(" + s[0] + ", -1)", -1, x -> x.first(s[0], -1));
        }
    }

    private static void deeds(List<Call> all) {
        for (int w : new int[] {LOW, -1, 24, FAR}) {
            add(all, "lamp(" + w + ")", -1, x -> x.lamp(w));
        }
        for (int n : new int[] {LOW, -1, 0, 501, FAR}) {
            add(all, "pass(" + n + ")", -1, x -> x.pass(n));
        }
        for (int what : new int[] {LOW, -1, 5, FAR}) {
            add(all, "led(" + what + ")", -1, x -> x.led(what));
            add(all, "count(" + what + ")", -1, x -> x.count(what));
        }
    }

    private static void shelves(List<Call> all) {
        for (int kind : new int[] {LOW, -1, 8, FAR}) {
            add(all, "body(" + kind + ")", -1, x -> x.body(kind));
        }
        for (int i : new int[] {LOW, -1, 14, 24, FAR}) {
            add(all, "trace(" + i + ")", -1, x -> x.trace(i));
        }
        int[][] keeps = {{-1, 0}, {6, 0}, {0, -2}, {0, 2}, {2, 2}, {1, 50}, {6, -1}};
        for (int[] k : keeps) {
            add(all, "keep(" + k[0] + ", " + k[1] + ")", -1, x -> x.keep(k[0], k[1]));
        }
        int[][] rows = {{-1, 0, 1, -1}, {6, 0, 1, -1}, {0, -1, 1, -1}, {0, 5, 1, -1}, {1, 0, 61, -1}, {2, 2, 61, -1},
            {2, 5, -1, -1}, {2, 2, -1, -14}, {1, 0, -1, -14}, {0, 4, LOW, -14}};
        for (int[] r : rows) {
            add(all, "row(" + r[0] + ", " + r[1] + ", " + r[2] + ")", r[3], x -> x.row(r[0], r[1], r[2]));
        }
        int[][] puts = {{-1, 0, -1}, {6, 0, -1}, {0, 0, -11}, {1, 0, -12}, {2, -1, -13}, {2, 4, -13}, {4, FAR, -13},
            {4, LOW, -13}};
        for (int[] p : puts) {
            add(all, "put(" + p[0] + ", " + p[1] + ", 9)", p[2], x -> x.put(p[0], p[1], 9));
            add(all, "element(" + p[0] + ", " + p[1] + ")", Long.MIN_VALUE, x -> x.element(p[0], p[1]));
        }
        int[][] shifts = {{-1, 0, 2, 0, 1, -1}, {2, 0, 6, 0, 1, -1}, {0, 0, 2, 0, 1, -11}, {2, 0, 0, 0, 1, -11},
            {1, 0, 2, 0, 1, -12}, {2, 0, 1, 0, 1, -12}, {2, 0, 3, 0, 1, -12}, {4, 0, 2, 0, 1, -12}, {2, -1, 5, 0, 1, -13},
            {2, 0, 5, -1, 1, -13}, {2, 0, 5, 0, 3, -13}, {5, 0, 2, 0, 3, -13}, {2, 1, 2, 0, 4, -13}, {2, 5, 5, 0, 0, -13},
            {2, 0, 5, 3, 0, -13}, {2, 1, 2, 0, FAR, -13}};
        for (int[] s : shifts) {
            add(all, "shift(" + s[0] + ", " + s[1] + ", " + s[2] + ", " + s[3] + ", " + s[4] + ")", s[5],
                    x -> x.shift(s[0], s[1], s[2], s[3], s[4]));
        }
        int[][] taken = {{-1, 0, -1}, {6, 0, -1}, {1, -1, -1}, {1, 8, -1}, {0, 8, -1}, {0, 0, -11}, {1, 2, -12},
            {2, 0, -12}};
        for (int[] t : taken) {
            add(all, "taken(" + t[0] + ", " + t[1] + ")", t[2], x -> x.taken(t[0], t[1]));
        }
    }

    private static List<Call> refusedAtFirst() {
        List<Call> all = new ArrayList<>();
        add(all, "undo()", -5, x -> x.undo());
        add(all, "redo()", -5, x -> x.redo());
        add(all, "back()", -5, x -> x.back());
        add(all, "law()", -100, x -> x.law());
        add(all, "act(0, 0, 5)", 0, x -> x.act(0, 0, 5));
        add(all, "keep(0, 0)", -1, x -> x.keep(0, 0));
        add(all, "keep(0, -1)", 1, x -> x.keep(0, -1));
        add(all, "mend(0, 3, 2)", 2, x -> x.mend(0, 3, 2));
        add(all, "comes(1)", -2, x -> x.comes(1));
        add(all, "set(7, 3, 0)", -2, x -> x.set(7, 3, 0));
        add(all, "curtain(1)", -3, x -> x.curtain(1));
        add(all, "curtain(0)", -2, x -> x.curtain(0));
        for (int shelf = 0; shelf < 6; shelf++) {
            int of = shelf;
            add(all, "first(" + of + ", 0)", -11, x -> x.first(of, 0));
            add(all, "shift(" + of + ", ..)", -11, x -> x.shift(of, 0, of, 0, 0));
        }
        return all;
    }

    private static List<Call> refusedWhenFull() {
        List<Call> all = new ArrayList<>();
        add(all, "feed('a')", -3, x -> x.feed('a'));
        add(all, "feed(256)", -1, x -> x.feed(256));
        add(all, "body(0)", -3, x -> x.body(0));
        add(all, "body(8)", -1, x -> x.body(8));
        return all;
    }

    private static List<Call> refusedLate() {
        List<Call> all = new ArrayList<>();
        add(all, "pass(1)", -5, x -> x.pass(1));
        add(all, "pass(500)", -5, x -> x.pass(500));
        add(all, "pass(501)", -1, x -> x.pass(501));
        add(all, "redo()", -5, x -> x.redo());
        add(all, "back()", -5, x -> x.back());
        add(all, "mend(0, 0, 7)", -1, x -> x.mend(0, 0, 7));
        add(all, "mend(0, 0, 3), as it is", 3, x -> x.mend(0, 0, 3));
        return all;
    }

    /** Calls that only tell: whatever they answer, nothing is otherwise behind them. */
    private static List<Call> told() {
        List<Call> all = new ArrayList<>();
        add(all, "of(0, 0)", ANY, x -> x.of(0, 0));
        add(all, "of(0, 10)", ANY, x -> x.of(0, 10));
        add(all, "on(500, 0)", ANY, x -> x.on(500, 0));
        add(all, "letter(500, 5)", ANY, x -> x.letter(500, 5));
        add(all, "all(500, 1)", ANY, x -> x.all(500, 1));
        add(all, "round(0)", ANY, x -> x.round(0));
        add(all, "round(1)", ANY, x -> x.round(1));
        add(all, "dark()", ANY, x -> x.dark());
        add(all, "comes(3)", ANY, x -> x.comes(3));
        add(all, "set(3, 60, 1)", ANY, x -> x.set(3, 60, 1));
        add(all, "set(7, 9, 0)", ANY, x -> x.set(7, 9, 0));
        add(all, "curtain(3)", ANY, x -> x.curtain(3));
        add(all, "curtain(0)", ANY, x -> x.curtain(0));
        add(all, "changesIt(0, 60)", ANY, x -> x.changesIt(0, 60));
        add(all, "movedBy(23, 60)", ANY, x -> x.movedBy(23, 60));
        add(all, "canSay(5, 60)", ANY, x -> x.canSay(5, 60));
        add(all, "together(45, 60)", ANY, x -> x.together(45, 60));
        add(all, "judge(2)", ANY, x -> x.judge(2));
        add(all, "habit(2, 23, 0)", ANY, x -> x.habit(2, 23, 0));
        add(all, "habit(2, 23, 1)", ANY, x -> x.habit(2, 23, 1));
        add(all, "tries(2, 5, 0)", ANY, x -> x.tries(2, 5, 0));
        add(all, "tries(2, 5, 1)", ANY, x -> x.tries(2, 5, 1));
        add(all, "first(2, 4)", ANY, x -> x.first(2, 4));
        add(all, "game(20, 2)", ANY, x -> x.game(20, 2));
        add(all, "drawn(7, 2060, 0)", ANY, x -> x.drawn(7, 2060, 0));
        add(all, "led(3)", ANY, x -> x.led(3));
        add(all, "trace(3)", ANY, x -> x.trace(3));
        add(all, "element(4, 1)", ANY, x -> x.element(4, 1));
        add(all, "taken(1, 0)", ANY, x -> x.taken(1, 0));
        add(all, "count(4)", ANY, x -> x.count(4));
        return all;
    }
}
