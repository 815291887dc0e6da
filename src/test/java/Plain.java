import java.util.ArrayDeque;
import java.util.ArrayList;
import java.util.Arrays;
import java.util.Deque;
import java.util.List;

/**
 * The document told once more in the plainest way, with no thought of speed or room: boolean rows,
 * real arrays on the shelves, real classes for the lamps, the law worked out from its text each time.
 */
final class Plain {
    static final int BAD = -1, NOT = -2, FULL = -3, STATE = -5;

    // ---- the state
    final int[][] habit = new int[6][24];
    int yawns;
    boolean[] lit = new boolean[24];
    int step;
    int switchings;
    int cuts;
    int most;
    int steps;
    Object[] image;
    String tape = "";
    String law = "a+b-m";
    final Deque<int[]> done = new ArrayDeque<>();
    final Deque<int[]> undone = new ArrayDeque<>();
    final List<Lamp> bodies = new ArrayList<>();
    final Object[] shelves = new Object[6];
    final List<Integer> ran = new ArrayList<>();

    Plain() {
        for (int w = 0; w < 24; w++) {
            habit[1][w] = (w + 12) % 24;
            habit[2][w] = (w + 12) % 24;
            habit[3][w] = 2;
        }
    }

    // ---- habits
    boolean window(int w) {
        return 0 <= w && w < 24;
    }

    boolean allowed(int number, int what, int v) {
        if (what == 6) {
            return number == 0 && 0 <= v && v <= 12;
        }
        if (what < 0 || what > 6 || !window(number)) {
            return false;
        }
        int[] least = {0, number < 12 ? 12 : 0, number < 12 ? 12 : 0, 1, 0, 0};
        int[] greatest = {6, number < 12 ? 23 : 11, number < 12 ? 23 : 11, 6, 5, 1};
        return least[what] <= v && v <= greatest[what];
    }

    int now(int number, int what) {
        return what == 6 ? yawns : habit[what][number];
    }

    void become(int number, int what, int v) {
        if (what == 6) {
            yawns = v;
        } else {
            habit[what][number] = v;
        }
    }

    int mend(int number, int what, int v) {
        if (!allowed(number, what, v)) {
            return BAD;
        }
        int was = now(number, what);
        if (was != v) {
            done.addLast(new int[] {number, what, was, v});
            if (done.size() > 40) {
                done.removeFirst();
            }
            undone.clear();
            become(number, what, v);
        }
        return was;
    }

    int of(int number, int what) {
        if (what == 6 && number == 0) {
            return yawns;
        }
        if (what >= 0 && what <= 5 && window(number)) {
            return habit[what][number];
        }
        if (what == 10 && window(number)) {
            return shown()[number] ? 1 : 0;
        }
        return what == 11 && number == 0 ? step : BAD;
    }

    int habits(int shelf, int i, int wn) {
        if (shelf < 0 || shelf > 5 || wn < 0 || wn / 100 > 23 || wn % 100 < 1 || wn % 100 > 24) {
            return BAD;
        }
        if (shelves[shelf] != null && !(shelves[shelf] instanceof byte[])) {
            return -12;
        }
        byte[] row = (byte[]) shelves[shelf];
        int whole = 0;
        try {
            for (int place = i; whole < wn % 100; whole++) {
                int[] three = {row[place++], row[place++], row[place++]};
                for (int what = 0; what < 3; what++) {
                    if (!allowed(wn / 100 + whole, what, three[what])) {
                        return whole;
                    }
                }
                for (int what = 0; what < 3; what++) {
                    mend(wn / 100 + whole, what, three[what]);
                }
            }
        } catch (NullPointerException | ArrayIndexOutOfBoundsException end) {
            return whole;
        }
        return whole;
    }

    int feed(int letter) {
        if (letter < 0 || letter > 255) {
            return BAD;
        }
        if (tape.length() == 120) {
            return FULL;
        }
        tape += (char) letter;
        return tape.length();
    }

    int law() {
        String text = tape;
        tape = "";
        int fault = fault(text);
        if (fault >= 0) {
            return -100 - fault;
        }
        law = text;
        return 1;
    }

    // ---- the law's text
    static boolean isText(String text) {
        try {
            return new Reading(text, new int[6]).lines();
        } catch (IllegalArgumentException no) {
            return false;
        }
    }

    static boolean goesOn(String ahead) {
        for (String operand : new String[] {"", "1"}) {
            for (String close : new String[] {"", ")", "))", ")))", "))))", ")))))", "))))))"}) {
                if (isText(ahead + operand + close)) {
                    return true;
                }
            }
        }
        return false;
    }

    /** -1, or the first place with which no text goes on; the length, if only the end is missing. */
    static int fault(String text) {
        if (isText(text)) {
            return -1;
        }
        for (int i = 0; i < text.length(); i++) {
            if (!goesOn(text.substring(0, i + 1))) {
                return i;
            }
        }
        return text.length();
    }

    /** Works a text out while it reads it. */
    static final class Reading {
        final String text;
        final int[] names;
        int at;
        int open;
        Integer counts;

        Reading(String text, int[] names) {
            this.text = text;
            this.names = names;
        }

        char c() {
            return at < text.length() ? text.charAt(at) : '\n';
        }

        boolean has(char sign) {
            if (c() == sign && at < text.length()) {
                at++;
                return true;
            }
            return false;
        }

        boolean lines() {
            do {
                int first = e();
                if (has('?')) {
                    int second = e();
                    if (first != 0 && counts == null) {
                        counts = second;
                    }
                } else if (counts == null) {
                    counts = first;
                }
            } while (has(';'));
            return at == text.length();
        }

        int e() {
            int v = a();
            while (has('|')) {
                int w = a();
                v = v != 0 || w != 0 ? 1 : 0;
            }
            return v;
        }

        int a() {
            int v = b();
            while (has('&')) {
                int w = b();
                v = v != 0 && w != 0 ? 1 : 0;
            }
            return v;
        }

        int b() {
            int v = s();
            if (has('<')) {
                return v < s() ? 1 : 0;
            }
            if (has('=')) {
                return v == s() ? 1 : 0;
            }
            if (has('>')) {
                return v > s() ? 1 : 0;
            }
            return v;
        }

        int s() {
            int v = p();
            while (true) {
                if (has('+')) {
                    v += p();
                } else if (has('-')) {
                    v -= p();
                } else {
                    return v;
                }
            }
        }

        int p() {
            int v = o();
            while (true) {
                if (has('*')) {
                    v *= o();
                } else if (has('/')) {
                    int w = o();
                    v = w == 0 ? 0 : v / w;
                } else if (has('%')) {
                    int w = o();
                    v = w == 0 ? 0 : v % w;
                } else {
                    return v;
                }
            }
        }

        int o() {
            int name = at < text.length() ? "abmnsk".indexOf(c()) : -1;
            if (name >= 0) {
                at++;
                return names[name];
            }
            if (c() >= '0' && c() <= '9') {
                int from = at;
                while (c() >= '0' && c() <= '9' && at - from < 4) {
                    at++;
                }
                return Integer.parseInt(text.substring(from, at));
            }
            if (c() != '(' && c() != '!' && c() != '-' || open == 6) {
                throw new IllegalArgumentException();
            }
            char sign = c();
            at++;
            open++;
            int v = sign == '(' ? e() : o();
            if (sign == '(' && !has(')')) {
                throw new IllegalArgumentException();
            }
            open--;
            return sign == '(' ? v : sign == '!' ? (v == 0 ? 1 : 0) : -v;
        }
    }

    // ---- steps
    boolean[] veiled(boolean[] on, int more) {
        boolean[] as = on.clone();
        for (int w = 0; w < 24; w++) {
            if (habit[5][w] == 1 || w == more) {
                as[w] = false;
            }
        }
        return as;
    }

    boolean[] shown() {
        return veiled(lit, -1);
    }

    boolean[] stepped(boolean[] on, int s, int more) {
        boolean[] was = veiled(on, more);
        boolean[] then = new boolean[24];
        for (int w = 0; w < 24; w++) {
            boolean a = was[habit[1][w]];
            boolean b = was[habit[2][w]];
            switch (habit[0][w]) {
                case 0 -> then[w] = was[w];
                case 1 -> then[w] = a;
                case 2 -> then[w] = !a;
                case 3 -> then[w] = a && b;
                case 4 -> then[w] = a != b;
                case 5 -> then[w] = s % habit[3][w] == habit[4][w];
                default -> {
                    int n = 0;
                    for (int v = 0; v < 12; v++) {
                        n += was[v + (w < 12 ? 12 : 0)] ? 1 : 0;
                    }
                    Reading r = new Reading(law, new int[] {a ? 1 : 0, b ? 1 : 0, was[w] ? 1 : 0, n, s, w});
                    r.lines();
                    then[w] = r.counts != null && r.counts > 0;
                }
            }
        }
        return veiled(then, more);
    }

    /** All nights from now to behind n steps, some windows switched now. */
    boolean[][] nights(int n, int more, int... switched) {
        boolean[][] all = new boolean[n + 1][];
        boolean[] first = lit.clone();
        for (int w : switched) {
            first[w] = !first[w];
        }
        all[0] = veiled(first, more);
        for (int i = 0; i < n; i++) {
            all[i + 1] = stepped(all[i], step + i, more);
        }
        return all;
    }

    static int bits(boolean[] on) {
        int b = 0;
        for (int w = 0; w < on.length; w++) {
            b |= on[w] ? 1 << w : 0;
        }
        return b;
    }

    static boolean[] from(int bits) {
        boolean[] on = new boolean[24];
        for (int w = 0; w < 24; w++) {
            on[w] = (bits >> w & 1) == 1;
        }
        return on;
    }

    static int many(boolean[] on) {
        int n = 0;
        for (boolean one : on) {
            n += one ? 1 : 0;
        }
        return n;
    }

    static int says(boolean[] on, int row) {
        return bits(Arrays.copyOfRange(on, 4 * row, 4 * row + 4));
    }

    // ---- nights in thought
    int on(int n, int w) {
        return n < 0 || n > 500 || !window(w) ? BAD : nights(n, -1)[n][w] ? 1 : 0;
    }

    int letter(int n, int row) {
        return n < 0 || n > 500 || row < 0 || row > 5 ? BAD : says(nights(n, -1)[n], row);
    }

    int all(int n, int what) {
        if (n < 0 || n > 500 || what < 0 || what > 1) {
            return BAD;
        }
        boolean[] on = nights(n, -1)[n];
        return what == 0 ? bits(on) : many(on);
    }

    int round(int what) {
        if (what != 0 && what != 1) {
            return BAD;
        }
        boolean clock = false;
        for (int w = 0; w < 24; w++) {
            clock |= habit[0][w] >= 5;
        }
        boolean[][] all = nights(500, -1);
        for (int first = 0; first <= 500; first++) {
            for (int len = 1; first + len <= 500; len++) {
                boolean sameStep = !clock || (step + first) % 60 == (step + first + len) % 60;
                if (sameStep && Arrays.equals(all[first], all[first + len])) {
                    return what == 0 ? first : len;
                }
            }
        }
        return NOT;
    }

    int dark() {
        boolean[][] all = nights(500, -1);
        for (int i = 0; i <= 500; i++) {
            if (many(all[i]) == 0) {
                return i;
            }
        }
        return NOT;
    }

    static boolean word(int rl) {
        return rl >= 0 && rl / 100 < 6 && rl % 100 < 16;
    }

    int saidWithin(int rl, int n, int more) {
        boolean[][] all = nights(n, more);
        for (int i = 0; i <= n; i++) {
            if (says(all[i], rl / 100) == rl % 100) {
                return i;
            }
        }
        return NOT;
    }

    int comes(int rl) {
        return word(rl) ? saidWithin(rl, 500, -1) : BAD;
    }

    int set(int rl, int n, int what) {
        if (!word(rl) || n < 0 || n > 60 || what < 0 || what > 1) {
            return BAD;
        }
        int best = Integer.MAX_VALUE;
        int count = 3;
        for (int a = -1; a < 24; a++) {
            for (int b = -1; b < a || b == -1 && a == -1; b++) {
                int many = (a >= 0 ? 1 : 0) + (b >= 0 ? 1 : 0);
                int which = (a >= 0 ? 1 << a : 0) | (b >= 0 ? 1 << b : 0);
                if (many > count || many == count && which > best) {
                    continue;
                }
                int[] switched = many == 0 ? new int[0] : many == 1 ? new int[] {a} : new int[] {a, b};
                if (says(nights(n, -1, switched)[n], rl / 100) == rl % 100) {
                    count = many;
                    best = which;
                }
            }
        }
        return count == 3 ? NOT : what == 0 ? count : best;
    }

    int curtain(int rl) {
        if (!word(rl)) {
            return BAD;
        }
        if (saidWithin(rl, 100, -1) == NOT) {
            return -3;
        }
        for (int w = 0; w < 24; w++) {
            if (saidWithin(rl, 100, w) == NOT) {
                return w;
            }
        }
        return NOT;
    }

    int changesIt(int w, int n) {
        if (!window(w) || n < 0 || n > 60) {
            return BAD;
        }
        return bits(nights(n, -1)[n]) ^ bits(nights(n, -1, w)[n]);
    }

    int movedBy(int w, int n) {
        if (!window(w) || n < 0 || n > 60) {
            return BAD;
        }
        int by = 0;
        for (int v = 0; v < 24; v++) {
            by |= nights(n, -1)[n][w] != nights(n, -1, v)[n][w] ? 1 << v : 0;
        }
        return by;
    }

    int canSay(int row, int n) {
        if (row < 0 || row > 5 || n < 0 || n > 60) {
            return BAD;
        }
        int letters = 0;
        for (int v = -1; v < 24; v++) {
            for (boolean[] on : v < 0 ? nights(n, -1) : nights(n, -1, v)) {
                letters |= 1 << says(on, row);
            }
        }
        return letters;
    }

    int together(int ab, int n) {
        if (ab < 0 || ab / 10 > 5 || ab % 10 > 5 || ab / 10 == ab % 10 || n < 0 || n > 60) {
            return BAD;
        }
        int times = 0;
        for (boolean[] on : nights(n, -1)) {
            times += says(on, ab / 10) == says(on, ab % 10) ? 1 : 0;
        }
        return times;
    }

    // ---- nights seen
    int refused(int shelf) {
        if (shelves[shelf] == null) {
            return -11;
        }
        if (!(shelves[shelf] instanceof int[])) {
            return -12;
        }
        for (int v : (int[]) shelves[shelf]) {
            if (v < 0 || v > 16777215) {
                return STATE;
            }
        }
        return 0;
    }

    int judge(int shelf) {
        if (shelf < 0 || shelf > 5) {
            return BAD;
        }
        if (refused(shelf) != 0) {
            return refused(shelf);
        }
        int[] seen = (int[]) shelves[shelf];
        boolean[] on = null;
        for (int i = 0; i < seen.length; i++) {
            on = i == 0 ? veiled(from(seen[0]), -1) : stepped(on, step + i - 1, -1);
            if (bits(on) != seen[i]) {
                return i;
            }
        }
        return NOT;
    }

    interface Guess {
        boolean next(int bits, int s);
    }

    /** All that a window's habit may be, with its code. */
    static List<Object[]> guesses(int w) {
        List<Object[]> all = new ArrayList<>();
        int base = w < 12 ? 12 : 0;
        all.add(new Object[] {0, (Guess) (x, s) -> from(x)[w]});
        for (int kind = 1; kind <= 2; kind++) {
            for (int i = 0; i < 12; i++) {
                int j = base + i;
                boolean as = kind == 1;
                all.add(new Object[] {kind * 1000 + i, (Guess) (x, s) -> from(x)[j] == as});
            }
        }
        for (int kind = 3; kind <= 4; kind++) {
            for (int i = 0; i < 12; i++) {
                for (int k = i + 1; k < 12; k++) {
                    int p = base + i;
                    int q = base + k;
                    boolean both = kind == 3;
                    Guess g = (x, s) -> both ? from(x)[p] && from(x)[q] : from(x)[p] != from(x)[q];
                    all.add(new Object[] {kind * 1000 + 12 * i + k, g});
                }
            }
        }
        for (int e = 1; e <= 6; e++) {
            for (int a = 0; a < e; a++) {
                int every = e;
                int at = a;
                all.add(new Object[] {5000 + 10 * e + a, (Guess) (x, s) -> s % every == at});
            }
        }
        return all;
    }

    List<Object[]> fitting(int shelf, int w) {
        int[] seen = (int[]) shelves[shelf];
        List<Object[]> fit = new ArrayList<>();
        for (Object[] guess : guesses(w)) {
            boolean so = true;
            for (int i = 0; i + 1 < seen.length; i++) {
                so &= ((Guess) guess[1]).next(seen[i], step + i) == from(seen[i + 1])[w];
            }
            if (so) {
                fit.add(guess);
            }
        }
        return fit;
    }

    int habit(int shelf, int w, int what) {
        if (shelf < 0 || shelf > 5 || !window(w) || what < 0 || what > 1) {
            return BAD;
        }
        if (refused(shelf) != 0) {
            return refused(shelf);
        }
        List<Object[]> fit = fitting(shelf, w);
        return what == 0 ? fit.size() : fit.isEmpty() ? NOT : (Integer) fit.get(0)[0];
    }

    int tries(int shelf, int w, int what) {
        if (shelf < 0 || shelf > 5 || !window(w) || what < 0 || what > 1) {
            return BAD;
        }
        if (refused(shelf) != 0) {
            return refused(shelf);
        }
        int[] seen = (int[]) shelves[shelf];
        List<Object[]> fit = fitting(shelf, w);
        if (seen.length == 0 || fit.isEmpty()) {
            return NOT;
        }
        int best = -1;
        int which = -1;
        for (int v = 0; v < 24; v++) {
            int on = 0;
            for (Object[] guess : fit) {
                on += ((Guess) guess[1]).next(seen[seen.length - 1] ^ 1 << v, step + seen.length - 1) ? 1 : 0;
            }
            int lesser = Math.min(on, fit.size() - on);
            if (lesser > best) {
                best = lesser;
                which = v;
            }
        }
        return what == 0 ? which : best;
    }

    int first(int shelf, int w) {
        if (shelf < 0 || shelf > 5 || !window(w)) {
            return BAD;
        }
        if (refused(shelf) != 0) {
            return refused(shelf);
        }
        int[] seen = (int[]) shelves[shelf];
        for (int i = 1; i < seen.length; i++) {
            if (from(seen[i])[w] != from(seen[i - 1])[w]) {
                return i;
            }
        }
        return NOT;
    }

    int game(int n, int what) {
        if (n < 0 || n > 20 || what < 0 || what > 2) {
            return BAD;
        }
        int[] best = {-1, -1, -1};
        for (int f = 0; f <= 12; f++) {
            int[] worst = {f, -1, 99};
            for (int o = 12; o <= 24; o++) {
                int[] switched = f < 12 && o < 24 ? new int[] {f, o} : f < 12 ? new int[] {f}
                        : o < 24 ? new int[] {o} : new int[0];
                int many = many(nights(n, -1, switched)[n]);
                if (many < worst[2]) {
                    worst = new int[] {f, o, many};
                }
            }
            if (worst[2] > best[2]) {
                best = worst;
            }
        }
        return best[what];
    }

    int drawn(int seed, int nm, int what) {
        int n = nm / 100;
        int m = nm % 100;
        if (nm < 0 || n < 1 || n > 20 || m < 1 || m > 60 || what < 0 || what > 1) {
            return BAD;
        }
        int z = seed;
        int[] sums = new int[2];
        for (int i = 0; i < n; i++) {
            boolean[] on = shown();
            for (int j = 0; j < m; j++) {
                z = z * 1103515245 + 12345;
                int w = (z >>> 8) % 24;
                if ((z >>> 16) % 12 < yawns) {
                    on[w] = !on[w];
                }
                on = stepped(on, step + j, -1);
            }
            sums[0] += many(on);
            sums[1] += many(on) == 0 ? 1 : 0;
        }
        return sums[what];
    }

    // ---- in deed
    int lamp(int w) {
        if (!window(w)) {
            return BAD;
        }
        switchings++;
        if (habit[5][w] == 1) {
            return 0;
        }
        lit[w] = !lit[w];
        return lit[w] ? 1 : 0;
    }

    int pass(int n) {
        if (n < 1 || n > 500) {
            return BAD;
        }
        if (step + n > 9999) {
            return STATE;
        }
        for (int i = 0; i < n; i++) {
            lit = stepped(lit, step, -1);
            step++;
            steps++;
            most = Math.max(most, many(lit));
        }
        return many(lit);
    }

    int cut() {
        int were = many(shown());
        lit = new boolean[24];
        cuts++;
        return were;
    }

    int led(int what) {
        return what < 0 || what > 4 ? BAD : new int[] {steps, switchings, cuts, most, step}[what];
    }

    int image() {
        image = new Object[] {lit.clone(), step, switchings, cuts, most, steps};
        return step;
    }

    int back() {
        if (image == null) {
            return STATE;
        }
        lit = ((boolean[]) image[0]).clone();
        step = (Integer) image[1];
        switchings = (Integer) image[2];
        cuts = (Integer) image[3];
        most = (Integer) image[4];
        steps = (Integer) image[5];
        return step;
    }

    int undo() {
        if (done.isEmpty()) {
            return STATE;
        }
        int[] one = done.removeLast();
        undone.addLast(one);
        become(one[0], one[1], one[2]);
        return done.size();
    }

    int redo() {
        if (undone.isEmpty()) {
            return STATE;
        }
        int[] one = undone.removeLast();
        done.addLast(one);
        become(one[0], one[1], one[3]);
        return undone.size();
    }

    // ---- acts
    interface Lights {
        Lamp me();

        default int lights(int x) {
            me().begin(1);
            return x + me().n;
        }
    }

    interface Tells {
        Lamp me();

        default int tells(int x) {
            me().begin(2);
            return me().moves(x) - me().says(1);
        }
    }

    static class Lamp implements Lights, Tells {
        int n;
        int kind;
        List<Integer> ran;

        public Lamp me() {
            return this;
        }

        void begin(int body) {
            ran.add(body);
        }

        int moves(int x) {
            begin(10);
            return lights(x) * 2;
        }

        int says(int x) {
            begin(11);
            return x ^ n;
        }
    }

    static class Seen extends Lamp {
        public int lights(int x) {
            begin(20);
            return super.lights(x) + 3;
        }
    }

    static class Clock extends Lamp {
        int moves(int x) {
            begin(30);
            return -super.moves(x);
        }
    }

    static class Row extends Clock {
        int says(int x) {
            begin(40);
            return super.says(x) * 3;
        }

        int moves(int x) {
            begin(41);
            return super.moves(x + 1);
        }
    }

    static class Word extends Seen {
        int says(int x) {
            begin(50);
            return super.says(x) - lights(2);
        }
    }

    static class Night extends Row {
        public int tells(int x) {
            begin(60);
            return super.tells(x) ^ 5;
        }
    }

    static class Yawn extends Lamp {
        public int lights(int x) {
            begin(70);
            return super.lights(x) * 2;
        }
    }

    static class Dark extends Word {
        int moves(int x) {
            begin(80);
            return super.moves(x) + says(2);
        }

        public int tells(int x) {
            begin(81);
            return super.tells(x) - 1;
        }
    }

    static final Class<?>[] KINDS = {Lamp.class, Seen.class, Clock.class, Row.class, Word.class,
        Night.class, Yawn.class, Dark.class};

    int body(int kind) {
        if (kind < 0 || kind > 7) {
            return BAD;
        }
        if (bodies.size() == 50) {
            return FULL;
        }
        Lamp[] fresh = {new Lamp(), new Seen(), new Clock(), new Row(), new Word(), new Night(), new Yawn(),
            new Dark()};
        Lamp lamp = fresh[kind];
        lamp.n = bodies.size();
        lamp.kind = kind;
        lamp.ran = ran;
        bodies.add(lamp);
        return lamp.n;
    }

    int act(int body, int act, int x) {
        ran.clear();
        if (body < 0 || body >= bodies.size()) {
            return 0;
        }
        Lamp lamp = bodies.get(body);
        return switch (act) {
            case 0 -> lamp.lights(x);
            case 1 -> lamp.moves(x);
            case 2 -> lamp.says(x);
            case 3 -> lamp.tells(x);
            default -> 0;
        };
    }

    int trace(int i) {
        return i < 0 || i >= Math.min(24, ran.size()) ? BAD : ran.get(i);
    }

    // ---- shelves
    int keep(int shelf, int body) {
        if (shelf < 0 || shelf > 5 || body < -1 || body >= bodies.size()) {
            return BAD;
        }
        shelves[shelf] = body < 0 ? null : bodies.get(body);
        return 1;
    }

    int row(int shelf, int sort, int n) {
        if (shelf < 0 || shelf > 5 || sort < 0 || sort > 4 || n > 60) {
            return BAD;
        }
        try {
            shelves[shelf] = switch (sort) {
                case 0 -> new byte[n];
                case 1 -> new short[n];
                case 2 -> new int[n];
                case 3 -> new long[n];
                default -> new boolean[n];
            };
        } catch (NegativeArraySizeException less) {
            return -14;
        }
        return 1;
    }

    int put(int shelf, int i, long v) {
        if (shelf < 0 || shelf > 5) {
            return BAD;
        }
        Object on = shelves[shelf];
        try {
            if (on == null) {
                return -11;
            } else if (on instanceof byte[] r) {
                r[i] = (byte) v;
            } else if (on instanceof short[] r) {
                r[i] = (short) v;
            } else if (on instanceof int[] r) {
                r[i] = (int) v;
            } else if (on instanceof long[] r) {
                r[i] = v;
            } else if (on instanceof boolean[] r) {
                r[i] = v != 0;
            } else {
                return -12;
            }
        } catch (ArrayIndexOutOfBoundsException no) {
            return -13;
        }
        return 1;
    }

    long element(int shelf, int i) {
        if (shelf < 0 || shelf > 5) {
            return Long.MIN_VALUE;
        }
        Object on = shelves[shelf];
        try {
            if (on instanceof boolean[] r) {
                return r[i] ? 1 : 0;
            }
            return on == null || on instanceof Lamp ? Long.MIN_VALUE : java.lang.reflect.Array.getLong(on, i);
        } catch (ArrayIndexOutOfBoundsException no) {
            return Long.MIN_VALUE;
        }
    }

    @SuppressWarnings("SuspiciousSystemArraycopy")
    int shift(int shelf, int i, int other, int j, int n) {
        if (shelf < 0 || shelf > 5 || other < 0 || other > 5) {
            return BAD;
        }
        try {
            System.arraycopy(shelves[shelf], i, shelves[other], j, n);
            return n;
        } catch (NullPointerException no) {
            return -11;
        } catch (ArrayStoreException no) {
            return -12;
        } catch (IndexOutOfBoundsException no) {
            return -13;
        }
    }

    int taken(int shelf, int k) {
        if (shelf < 0 || shelf > 5 || k < 0 || k > 7) {
            return BAD;
        }
        if (shelves[shelf] == null) {
            return -11;
        }
        return KINDS[k].isInstance(shelves[shelf]) ? ((Lamp) shelves[shelf]).kind : -12;
    }

    int count(int what) {
        return switch (what) {
            case 0 -> many(shown());
            case 1 -> tape.length();
            case 2 -> done.size();
            case 3 -> bodies.size();
            case 4 -> ran.size();
            default -> BAD;
        };
    }
}
