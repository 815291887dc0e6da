import java.util.ArrayDeque;
import java.util.Random;

/** Runs of 512 calls by a fixed seed, each answer held against the plain model's. */
public final class RandomRunsTest {
    private static final String[] LAWS = {"a", "!m", "a&!b|m", "n>3?a;m", "s%3=1", "k%5-s%4", "n*2-k/3", "a+b+m=2",
        "-(a-b)*n>0-2", "s%7?n%3;k%2?!a;0", "s*s*9999*9999*9999/7", "((!(-a)))+1/0", "s%60<30&!m", "s>40?m;b",
        "n=0|n>6?!m", "9999*9999*9999*9999*s+n"};
    private static final String SIGNS = "abmnsk0123459()!-+*/%<=>&|?;";
    private static final int CALLS = 42;

    private final Random random;
    private final WhichWindow x = new WhichWindow();
    private final Plain y = new Plain();
    private final StringBuilder log = new StringBuilder();
    private String call;
    private long got;
    private long want;
    private final ArrayDeque<Runnable> waiting = new ArrayDeque<>();

    RandomRunsTest(long seed) {
        random = new Random(seed);
        if (seed % 3 > 0) {
            furnish();
        }
    }

    /** Habits for most windows, some of them on. */
    private void furnish() {
        int kinds = random.nextInt(3) == 0 ? 7 : random.nextBoolean() ? 5 : 2;
        for (int w = 0; w < 24; w++) {
            int window = w;
            int kind = random.nextInt(kinds);
            int sees = random.nextInt(12) + (w < 12 ? 12 : 0);
            waiting.add(() -> hold("mend", x.mend(window, 0, kind), y.mend(window, 0, kind), window, 0, kind));
            waiting.add(() -> hold("mend", x.mend(window, 1, sees), y.mend(window, 1, sees), window, 1, sees));
            if (random.nextBoolean()) {
                waiting.add(() -> hold("lamp", x.lamp(window), y.lamp(window), window));
            }
        }
    }

    /** Some nights are laid on a shelf as they will be, one of them otherwise now and then. */
    private void layNights(int shelf) {
        int size = random.nextInt(12);
        int wrong = random.nextInt(24);
        waiting.add(() -> hold("row", x.row(shelf, 2, size), y.row(shelf, 2, size), shelf, 2, size));
        for (int i = 0; i < size; i++) {
            int at = i;
            int bit = i == wrong ? 1 << random.nextInt(24) : 0;
            waiting.add(() -> {
                long v = y.all(at, 0) ^ bit;
                hold("put", x.put(shelf, at, v), y.put(shelf, at, v), shelf, at, v);
            });
        }
    }

    private void feedText(String text) {
        for (char c : text.toCharArray()) {
            waiting.add(() -> hold("feed", x.feed(c), y.feed(c), (int) c));
        }
        waiting.add(() -> hold("law", x.law(), y.law(), text));
    }

    public static void main(String[] args) {
        int runs = args.length > 0 ? Integer.parseInt(args[0]) : 100;
        int from = args.length > 1 ? Integer.parseInt(args[1]) : 1;
        int wrong = 0;
        for (int run = from; run < from + runs; run++) {
            RandomRunsTest test = new RandomRunsTest(run);
            for (int i = 0; i < 512; i++) {
                test.one(run % 4);
                test.log.append(test.call).append('\n');
                if (test.got != test.want) {
                    System.out.println("run " + run + ", call " + i + ": " + test.call + " answered " + test.got
                            + ", due is " + test.want);
                    if (args.length > 2) {
                        System.out.println(test.log);
                    }
                    wrong++;
                    break;
                }
            }
        }
        System.out.println("RandomRunsTest: " + (wrong == 0 ? "all as due" : wrong + " runs not as due"));
        if (wrong != 0) {
            System.exit(1);
        }
    }

    private void hold(String name, long gotNow, long wantNow, Object... args) {
        call = name + java.util.Arrays.toString(args);
        got = gotNow;
        want = wantNow;
    }

    /** A number from least to greatest, once in a while just beyond or far off. */
    private int near(int least, int greatest) {
        int way = random.nextInt(40);
        if (way == 0) {
            return least - 1;
        }
        if (way == 1) {
            return greatest + 1;
        }
        if (way == 2 && random.nextInt(3) == 0) {
            return random.nextInt();
        }
        return least + random.nextInt(greatest - least + 1);
    }

    private int window() {
        return near(0, 23);
    }

    private int what(int most) {
        return near(0, most);
    }

    private int shelf() {
        return random.nextInt(3) > 0 ? random.nextInt(2) : near(0, 5);
    }

    private int word() {
        return random.nextInt(15) == 0 ? near(0, 620) : 100 * random.nextInt(6) + random.nextInt(16);
    }

    private int count(int most) {
        return random.nextInt(3) == 0 ? near(0, most) : random.nextInt(Math.min(most, 9) + 1);
    }

    private String text() {
        StringBuilder b = new StringBuilder(LAWS[random.nextInt(LAWS.length)]);
        for (int i = random.nextInt(6) - 2; i > 0; i--) {
            int at = random.nextInt(b.length() + 1);
            if (random.nextInt(3) == 0 && b.length() > 1 && at < b.length()) {
                b.deleteCharAt(at);
            } else {
                b.insert(at, SIGNS.charAt(random.nextInt(SIGNS.length())));
            }
        }
        return b.toString();
    }

    /** A text by the grammar, now and then with a sign too many or too few, and not too long. */
    private String expression(int deep) {
        int way = deep <= 0 ? random.nextInt(2) : random.nextInt(8);
        String made = switch (way) {
            case 0 -> "" + "abmnsk".charAt(random.nextInt(6));
            case 1 -> "" + random.nextInt(random.nextInt(8) == 0 ? 10000 : 20);
            case 2 -> "!" + expression(deep - 1);
            case 3 -> "-" + expression(deep - 1);
            case 4 -> "(" + expression(deep - 1) + ")";
            case 5 -> expression(deep - 1) + (deep > 1 ? "?;".charAt(random.nextInt(2)) : ';') + expression(deep - 1);
            default -> expression(deep - 1) + "+-*/%<=>&|".charAt(random.nextInt(10)) + expression(deep - 1);
        };
        return made.length() > 60 ? "n" : made;
    }

    private void one(int manner) {
        if (!waiting.isEmpty()) {
            waiting.remove().run();
            return;
        }
        int which = random.nextInt(CALLS + 14);
        if (which >= CALLS && random.nextInt(3) > 0) {
            mended(manner);
        } else if (which >= CALLS) {
            lampOrPut(manner);
        } else if (which < 21) {
            thought(which);
        } else {
            rest(which);
        }
    }

    private void mended(int manner) {
        int w = window();
        int what = random.nextInt(12) == 0 ? near(0, 7) : random.nextInt(6);
        int v = switch (what) {
            case 0 -> manner == 0 ? near(0, 4) : manner == 1 ? 6 - random.nextInt(2) : near(0, 6);
            case 1, 2 -> random.nextInt(12) == 0 ? near(0, 23) : w < 12 ? near(12, 23) : near(0, 11);
            case 3 -> near(1, 6);
            case 4 -> near(0, 5);
            case 5 -> random.nextInt(3) == 0 ? 1 : near(0, 1);
            default -> near(0, 12);
        };
        if (what == 6 && random.nextInt(4) > 0) {
            w = 0;
        }
        hold("mend", x.mend(w, what, v), y.mend(w, what, v), w, what, v);
    }

    private void lampOrPut(int manner) {
        if (random.nextBoolean()) {
            int w = window();
            hold("lamp", x.lamp(w), y.lamp(w), w);
            return;
        }
        int shelf = shelf();
        int i = near(0, 8);
        int by = random.nextInt(6);
        int a = near(0, 6);
        long v = by == 0 ? random.nextLong() : by == 1 ? y.all(Math.max(0, Math.min(i, 60)), 0)
                : by < 4 ? near(0, 23) : manner == 2 ? random.nextInt(1 << 24) : a;
        hold("put", x.put(shelf, i, v), y.put(shelf, i, v), shelf, i, v);
    }

    private void thought(int which) {
        int w = window();
        int row = near(0, 5);
        int rl = word();
        int n = count(60);
        int far = random.nextInt(4) == 0 ? near(0, 500) : n;
        int two = what(1);
        switch (which) {
            case 0 -> mended(0);
            case 1 -> hold("of", x.of(w, n), y.of(w, n), w, n);
            case 2 -> {
                int wn = random.nextInt(9) == 0 ? near(0, 2450) : 100 * random.nextInt(24) + near(1, 24);
                int i = near(0, 4);
                int shelf = shelf();
                hold("habits", x.habits(shelf, i, wn), y.habits(shelf, i, wn), shelf, i, wn);
            }
            case 3 -> {
                feedText(random.nextInt(3) == 0 ? text() : expression(random.nextInt(4)));
                one(0);
            }
            case 4 -> hold("law", x.law(), y.law());
            case 5 -> hold("on", x.on(far, w), y.on(far, w), far, w);
            case 6 -> hold("letter", x.letter(far, row), y.letter(far, row), far, row);
            case 7 -> hold("all", x.all(far, two), y.all(far, two), far, two);
            case 8 -> hold("round", x.round(two), y.round(two), two);
            case 9 -> hold("dark", x.dark(), y.dark());
            case 10 -> hold("comes", x.comes(rl), y.comes(rl), rl);
            case 11 -> hold("set", x.set(rl, n, two), y.set(rl, n, two), rl, n, two);
            case 12 -> hold("curtain", x.curtain(rl), y.curtain(rl), rl);
            case 13 -> hold("changesIt", x.changesIt(w, n), y.changesIt(w, n), w, n);
            case 14 -> hold("movedBy", x.movedBy(w, n), y.movedBy(w, n), w, n);
            case 15 -> hold("canSay", x.canSay(row, n), y.canSay(row, n), row, n);
            case 16 -> {
                int ab = 10 * near(0, 5) + near(0, 5);
                hold("together", x.together(ab, n), y.together(ab, n), ab, n);
            }
            case 17 -> {
                int shelf = shelf();
                if (random.nextBoolean()) {
                    layNights(shelf);
                }
                hold("judge", x.judge(shelf), y.judge(shelf), shelf);
            }
            case 18 -> {
                int shelf = shelf();
                hold("habit", x.habit(shelf, w, two), y.habit(shelf, w, two), shelf, w, two);
            }
            case 19 -> {
                int shelf = shelf();
                hold("tries", x.tries(shelf, w, two), y.tries(shelf, w, two), shelf, w, two);
            }
            default -> {
                int shelf = shelf();
                hold("first", x.first(shelf, w), y.first(shelf, w), shelf, w);
            }
        }
    }

    private void rest(int which) {
        int w = window();
        int n = count(20);
        int shelf = shelf();
        int other = shelf();
        int act = near(0, 3);
        switch (which) {
            case 21 -> hold("game", x.game(n, act), y.game(n, act), n, act);
            case 22 -> {
                int seed = random.nextInt();
                int nm = 100 * near(1, 20) + near(1, 60);
                int what = what(1);
                hold("drawn", x.drawn(seed, nm, what), y.drawn(seed, nm, what), seed, nm, what);
            }
            case 23 -> hold("lamp", x.lamp(w), y.lamp(w), w);
            case 24 -> {
                int steps = random.nextInt(5) == 0 ? near(1, 500) : near(1, 5);
                hold("pass", x.pass(steps), y.pass(steps), steps);
            }
            case 25 -> hold("cut", x.cut(), y.cut());
            case 26 -> hold("led", x.led(n), y.led(n), n);
            case 27 -> hold("image", x.image(), y.image());
            case 28 -> hold("back", x.back(), y.back());
            case 29 -> hold("undo", x.undo(), y.undo());
            case 30 -> hold("redo", x.redo(), y.redo());
            case 31 -> hold("body", x.body(n), y.body(n), n);
            case 32 -> {
                int body = near(0, Math.max(0, y.bodies.size() - 1));
                int number = random.nextBoolean() ? random.nextInt() : near(0, 9);
                hold("act", x.act(body, act, number), y.act(body, act, number), body, act, number);
            }
            case 33 -> hold("trace", x.trace(n), y.trace(n), n);
            case 34 -> {
                int body = near(-1, Math.max(0, y.bodies.size() - 1));
                hold("keep", x.keep(shelf, body), y.keep(shelf, body), shelf, body);
            }
            case 35 -> {
                int sort = random.nextBoolean() ? 2 * random.nextInt(2) : near(0, 4);
                int size = random.nextInt(4) == 0 ? near(0, 60) : near(0, 9);
                hold("row", x.row(shelf, sort, size), y.row(shelf, sort, size), shelf, sort, size);
            }
            case 36 -> hold("element", x.element(shelf, n), y.element(shelf, n), shelf, n);
            case 37, 38 -> {
                int i = near(0, 5);
                int j = near(0, 5);
                int many = near(0, 6);
                hold("shift", x.shift(shelf, i, other, j, many), y.shift(shelf, i, other, j, many), shelf, i, other, j,
                        many);
            }
            case 39 -> {
                int k = near(0, 7);
                hold("taken", x.taken(shelf, k), y.taken(shelf, k), shelf, k);
            }
            case 40 -> hold("count", x.count(n), y.count(n), n);
            default -> lampOrPut(random.nextInt(3));
        }
    }
}
