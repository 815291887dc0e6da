/** Promises 1 to 6: a new object, habits, the tape and the law. */
public final class HabitsTest {
    private static final Checks C = new Checks("HabitsTest");

    public static void main(String[] args) {
        newObject();
        mend();
        mendTellsNothingOfBad();
        habitsFromARow();
        habitsThatEnd();
        habitsRefused();
        tape();
        faults();
        meanings();
        countsOfBothTowers();
        lawStays();
        C.end();
    }

    private static void newObject() {
        WhichWindow x = new WhichWindow();
        for (int w = 0; w < 24; w++) {
            C.due("new of(" + w + ", 10)", x.of(w, 10), 0);
            C.due("new of(" + w + ", 0)", x.of(w, 0), 0);
            C.due("new of(" + w + ", 1)", x.of(w, 1), (w + 12) % 24);
            C.due("new of(" + w + ", 2)", x.of(w, 2), (w + 12) % 24);
            C.due("new of(" + w + ", 3)", x.of(w, 3), 2);
            C.due("new of(" + w + ", 4)", x.of(w, 4), 0);
            C.due("new of(" + w + ", 5)", x.of(w, 5), 0);
        }
        C.due("new yawns", x.of(0, 6), 0);
        C.due("new step", x.of(0, 11), 0);
        for (int i = 0; i < 5; i++) {
            C.due("new led(" + i + ")", x.led(i), 0);
            C.due("new count(" + i + ")", x.count(i), 0);
        }
        for (int shelf = 0; shelf < 6; shelf++) {
            C.due("new put", x.put(shelf, 0, 1), -11);
            C.due("new taken", x.taken(shelf, 0), -11);
        }
        C.due("new back", x.back(), -5);
        C.due("new undo", x.undo(), -5);
        C.due("new redo", x.redo(), -5);
        C.due("new trace", x.trace(0), -1);
        C.due("new act", x.act(0, 0, 5), 0);
        C.due("new all", x.all(0, 0), 0);
    }

    /** what, a number, the least, the greatest, what it was. */
    private static final int[][] MENDS = {{0, 3, 0, 6, 0}, {1, 3, 12, 23, 15}, {1, 15, 0, 11, 3}, {2, 0, 12, 23, 12},
        {2, 23, 0, 11, 11}, {3, 7, 1, 6, 2}, {4, 7, 0, 5, 0}, {5, 12, 0, 1, 0}, {6, 0, 0, 12, 0}};

    private static void mend() {
        for (int[] m : MENDS) {
            WhichWindow x = new WhichWindow();
            String of = "(" + m[1] + ", " + m[0] + ")";
            C.due("mend least " + of, x.mend(m[1], m[0], m[2]), m[4]);
            C.due("of" + of, x.of(m[1], m[0]), m[2]);
            C.due("mend greatest " + of, x.mend(m[1], m[0], m[3]), m[2]);
            C.due("of" + of, x.of(m[1], m[0]), m[3]);
            C.due("mend below " + of, x.mend(m[1], m[0], m[2] - 1), -1);
            C.due("mend beyond " + of, x.mend(m[1], m[0], m[3] + 1), -1);
            C.due("mend far " + of, x.mend(m[1], m[0], Integer.MIN_VALUE), -1);
            C.due("mend far " + of, x.mend(m[1], m[0], Integer.MAX_VALUE), -1);
            C.due("of still " + of, x.of(m[1], m[0]), m[3]);
        }
    }

    private static void mendTellsNothingOfBad() {
        WhichWindow x = new WhichWindow();
        x.mend(0, 0, 1);
        x.mend(0, 0, 2);
        x.undo();
        int[][] bad = {{-1, 0, 0}, {24, 0, 0}, {0, -1, 0}, {0, 7, 0}, {1, 6, 3}, {-1, 6, 3}, {0, 10, 1}, {0, 11, 1},
            {Integer.MIN_VALUE, 0, 0}, {0, Integer.MAX_VALUE, 0}, {0, 1, 11}, {12, 2, 12}};
        for (int[] b : bad) {
            C.due("mend(" + b[0] + ", " + b[1] + ", " + b[2] + ")", x.mend(b[0], b[1], b[2]), -1);
        }
        C.due("one can be undone", x.count(2), 1);
        C.due("done again still", x.redo(), 0);
        C.due("it is so", x.of(0, 0), 2);
        int[][] none = {{-1, 0}, {24, 0}, {0, -1}, {0, 7}, {0, 8}, {0, 9}, {0, 12}, {1, 6}, {1, 11}, {24, 10},
            {-1, 10}, {-1, 11}, {-1, 6}};
        for (int[] b : none) {
            C.due("of(" + b[0] + ", " + b[1] + ")", x.of(b[0], b[1]), -1);
        }
        x.lamp(5);
        x.pass(3);
        C.due("of on", x.of(5, 10), 1);
        C.due("of step", x.of(0, 11), 3);
    }

    private static void habitsFromARow() {
        WhichWindow x = new WhichWindow();
        Checks.lay(x, 2, 0, 99, 1, 12, 13, 6, 23, 22, 4, 0, 11);
        C.due("habits of 10, 11, 12", x.habits(2, 1, 1003), 3);
        int[][] due = {{10, 1, 12, 13}, {11, 6, 23, 22}, {12, 4, 0, 11}};
        for (int[] d : due) {
            for (int what = 0; what < 3; what++) {
                C.due("of(" + d[0] + ", " + what + ")", x.of(d[0], what), d[1 + what]);
            }
        }
        C.due("nine numbers, two of them as they were", x.count(2), 7);
        C.due("undo", x.undo(), 6);
        C.due("ALSO of 12", x.of(12, 2), 0);
        C.due("SEES of 12", x.of(12, 1), 0);
        C.due("again", x.habits(2, 1, 1003), 3);
        C.due("only what was undone is new", x.count(2), 7);
        C.due("fewer than the row has", x.habits(2, 7, 1401), 1);
        C.due("the first", x.of(14, 0), 4);
        C.due("fewer than the row has", x.habits(2, 1, 301), 1);
        C.due("the first", x.of(3, 0), 1);
        C.due("not the next one", x.of(4, 0), 0);
        WhichWindow y = new WhichWindow();
        Checks.lay(y, 0, 0, 0, 12, 12);
        C.due("as it was", y.habits(0, 0, 1), 1);
        C.due("no change", y.count(2), 0);
    }

    private static void habitsThatEnd() {
        WhichWindow x = new WhichWindow();
        C.due("a missing row", x.habits(0, 0, 24), 0);
        Checks.lay(x, 0, 0, 1, 13, 14, 2, 15);
        C.due("it ends within a three", x.habits(0, 0, 24), 1);
        C.due("the whole one", x.of(0, 2), 14);
        C.due("KIND of the one that ends", x.of(1, 0), 0);
        C.due("SEES of the one that ends", x.of(1, 1), 13);
        C.due("changes", x.count(2), 3);
        C.due("it ends behind a KIND", x.habits(0, 4, 124), 0);
        C.due("it ends behind KIND and SEES", x.habits(0, 3, 124), 0);
        C.due("no change", x.count(2), 3);
        C.due("from its end on", x.habits(0, 5, 24), 0);
        C.due("from far behind its end on", x.habits(0, Integer.MAX_VALUE, 24), 0);
        C.due("from ahead of it on", x.habits(0, -1, 24), 0);
        C.due("from three ahead of it on", x.habits(0, -3, 24), 0);
        C.due("from far ahead of it on", x.habits(0, Integer.MIN_VALUE, 24), 0);
        C.due("a missing row from ahead on", x.habits(5, -1, 24), 0);
        threeNotSo(3, 16, 17, 7, 16, 17);
        threeNotSo(3, 16, 17, -1, 16, 17);
        threeNotSo(3, 16, 17, 3, 11, 17);
        threeNotSo(3, 16, 17, 3, 24, 17);
        threeNotSo(3, 16, 17, 3, 16, 24);
        threeNotSo(3, 16, 17, 3, 16, -1);
        Checks.lay(x, 1, 0, 1, 2, 3, 4, 5, 6, 5, 7, 8);
        C.due("no such WINDOW", x.habits(1, 0, 2224), 2);
        C.due("22", x.of(22, 2), 3);
        C.due("23", x.of(23, 0), 4);
        x.row(3, 0, 0);
        C.due("an empty row", x.habits(3, 0, 1), 0);
    }

    /** Two threes for 2 and 3, the other one not so: nothing of it is told. */
    private static void threeNotSo(long... bytes) {
        WhichWindow x = new WhichWindow();
        Checks.lay(x, 1, 0, bytes);
        C.due("one ahead", x.habits(1, 0, 202), 1);
        for (int what = 0; what < 3; what++) {
            C.due("ahead " + what, x.of(2, what), bytes[what]);
            C.due("not so " + what, x.of(3, what), what == 0 ? 0 : 15);
        }
        C.due("each number a change", x.count(2), 3);
        C.due("the latest one undone", x.undo(), 2);
        C.due("is ALSO", x.of(2, 2), 14);
        C.due("SEES stays", x.of(2, 1), 16);
    }

    private static void habitsRefused() {
        WhichWindow x = new WhichWindow();
        x.body(0);
        x.keep(1, 0);
        int[][] bad = {{-1, 0, 1}, {6, 0, 1}, {0, -1, 0}, {0, 0, 0}, {0, 0, 25}, {0, 0, -1}, {0, 0, 2401}, {0, 0, 100},
            {0, 0, Integer.MIN_VALUE}, {0, 0, Integer.MAX_VALUE}, {0, -1, 2401}, {1, 0, 0}};
        for (int[] b : bad) {
            C.due("habits(" + b[0] + ", " + b[1] + ", " + b[2] + ")", x.habits(b[0], b[1], b[2]), -1);
        }
        C.due("a lamp", x.habits(1, 0, 1), -12);
        C.due("a lamp from ahead on", x.habits(1, -1, 1), -12);
        for (int sort = 1; sort < 5; sort++) {
            x.row(2, sort, 3);
            C.due("sort " + sort, x.habits(2, 0, 1), -12);
        }
        C.due("the last window, the most", x.habits(0, 0, 2324), 0);
    }

    private static void tape() {
        WhichWindow x = new WhichWindow();
        C.due("feed -1", x.feed(-1), -1);
        C.due("feed 256", x.feed(256), -1);
        C.due("nothing on it", x.count(1), 0);
        C.due("feed 0", x.feed(0), 1);
        C.due("feed 255", x.feed(255), 2);
        for (int i = 3; i <= 120; i++) {
            C.due("feed the " + i + ".", x.feed('a'), i);
        }
        C.due("full", x.feed('a'), -3);
        C.due("BAD ahead of FULL", x.feed(256), -1);
        C.due("120 on it", x.count(1), 120);
        C.due("fault 0", x.law(), -100);
        C.due("the tape is empty then", x.count(1), 0);
        C.due("it goes on from 1", x.feed('a'), 1);
    }

    private static void fault(String text, int place) {
        WhichWindow x = new WhichWindow();
        C.due("law of " + text, Checks.law(x, text), place < 0 ? 1 : -100 - place);
        C.due("the tape is empty behind " + text, x.count(1), 0);
    }

    private static void faults() {
        String[] whole = {"a", "b", "m", "n", "s", "k", "0", "9999", "0000", "a;b", "a?b", "a?b;m", "a|b&m<n+s*k",
            "a<b&m=n|s>k", "((((((1))))))", "!!!!!!a", "------a", "(!(-(!1)))", "(a)+(b)+(m)+(n)+(s)+(k)+(1)+(2)",
            "!a+!a+!a+!a+!a+!a+!a", "a--b", "a-!b", "(a<b)<m", "1/0", "a*b/m%n", "(a|b)?(a&b)", "-a--b"};
        for (String text : whole) {
            fault(text, -1);
        }
        fault("", 0);
        fault("a;", 2);
        fault("a?", 2);
        fault("(a", 2);
        fault("a+", 2);
        fault("!", 1);
        fault(";", 0);
        fault(" a", 0);
        fault("a b", 1);
        fault("ab", 1);
        fault("12345", 4);
        fault("1a", 1);
        fault("a1", 1);
        fault("c", 0);
        fault("A", 0);
        fault("a<b<m", 3);
        fault("a=b>m", 3);
        fault("(a<b=m)", 4);
        fault("a?b?m", 3);
        fault("(a?b)", 2);
        fault("(a;b)", 2);
        fault("a)", 1);
        fault("()", 1);
        fault("a+*b", 2);
        fault("+a", 0);
        fault("a||b", 2);
        fault("a==b", 2);
        fault("(((((((1)))))))", 6);
        fault("!!!!!!!a", 6);
        fault("-------a", 6);
        fault("((((((!1))))))", 6);
        fault("((((((-", 6);
        fault("!(!(!(!a)))", 6);
        fault("((((((1)))))", 12);
        fault("a;;b", 2);
        fault("a;b?;m", 4);
        fault("a\u00ff", 1);
        fault("a\u0000", 1);
        StringBuilder most = new StringBuilder("a");
        while (most.length() < 119) {
            most.append("+b");
        }
        fault(most.toString(), -1);
        fault(most + "+", 120);
        fault(most + "b", 119);
    }

    /** Behind one step of a law of window w, some windows on ahead: on or not. */
    private static void means(String text, int window, int on, int... lamps) {
        WhichWindow x = new WhichWindow();
        x.mend(window, 0, 6);
        x.mend(window, 2, window < 12 ? 23 : 11);
        C.due("law of " + text, Checks.law(x, text), 1);
        Checks.lamps(x, lamps);
        C.due(text + " of window " + window, x.on(1, window), on);
    }

    private static void meanings() {
        means("a", 3, 1, 15);
        means("a", 3, 0, 23);
        means("b", 3, 1, 23);
        means("b", 15, 1, 11);
        means("m", 3, 1, 3);
        means("m", 3, 0, 15);
        means("n=3", 3, 1, 12, 13, 14, 0, 1);
        means("n=2", 14, 1, 12, 13, 14, 0, 1);
        means("k=3", 3, 1);
        means("k=23", 23, 1);
        means("s=0", 3, 1);
        means("s", 3, 0);
        means("0", 3, 0);
        means("-1", 3, 0);
        means("2", 3, 1);
        means("1-2*3", 3, 0);
        means("(1-2)*-3", 3, 1);
        means("-7/2=-3", 3, 1);
        means("-7%3=-1", 3, 1);
        means("5/0=0", 3, 1);
        means("5%0=0", 3, 1);
        means("7/2*2=6", 3, 1);
        means("8-3-2=3", 3, 1);
        means("2+3*4=14", 3, 1);
        means("(3|0)=1", 3, 1);
        means("(3&2)=1", 3, 1);
        means("3&0", 3, 0);
        means("0|0", 3, 0);
        means("!5", 3, 0);
        means("!0=1", 3, 1);
        means("1<2", 3, 1);
        means("(1<2)+(2=2)+(2>1)=3", 3, 1);
        means("1?0|1;0", 3, 1);
        means("0|1?1;0", 3, 1);
        means("2<2", 3, 0);
        means("2>1", 3, 1);
        means("2>2", 3, 0);
        means("1|0&0", 3, 1);
        means("9999*9999*9999<0", 3, (9999 * 9999 * 9999) < 0 ? 1 : 0);
        means("0?1;2", 3, 1);
        means("0?1;0?1", 3, 0);
        means("0?1;1?0;1", 3, 0);
        means("0-1?1;0", 3, 1);
        means("0;1", 3, 0);
        means("a?m;!m", 3, 1);
        means("a?m;!m", 3, 0, 15);
        means("-1?-1;1", 3, 0);
    }

    /** The law is asked for windows 11 and 12 alike, with a count that is another one for each tower. */
    private static void countsOfBothTowers() {
        for (int many = 0; many <= 12; many++) {
            WhichWindow x = new WhichWindow();
            x.mend(11, 0, 6);
            x.mend(12, 0, 6);
            for (int w = 12; w < 12 + many; w++) {
                x.lamp(w);
            }
            Checks.law(x, "n=" + many + "&k=11");
            C.due("11 of " + many, x.on(1, 11), 1);
            C.due("12 of " + many, x.on(1, 12), 0);
            Checks.law(x, "n=0&k=12");
            C.due("12 of none", x.on(1, 12), 1);
            C.due("11 of none", x.on(1, 11), 0);
        }
    }

    private static void lawStays() {
        WhichWindow x = new WhichWindow();
        x.mend(0, 0, 6);
        x.mend(0, 2, 13);
        C.due("a and b less m: none", x.on(1, 0), 0);
        x.lamp(12);
        C.due("a", x.on(1, 0), 1);
        x.lamp(0);
        C.due("a less m", x.on(1, 0), 0);
        x.lamp(13);
        C.due("a and b less m", x.on(1, 0), 1);
        x.lamp(12);
        x.lamp(13);
        C.due("a new law", Checks.law(x, "!a"), 1);
        C.due("not a", x.on(1, 0), 1);
        C.due("a fault", Checks.law(x, "0;("), -103);
        C.due("the law is as it was", x.on(1, 0), 1);
        C.due("an empty tape", x.law(), -100);
        C.due("the law is as it was", x.on(1, 0), 1);
        C.due("a law is no change", x.count(2), 2);
        C.due("another one", Checks.law(x, "s>1"), 1);
        C.due("step 0", x.on(1, 0), 0);
        C.due("step 1", x.on(2, 0), 0);
        C.due("step 2", x.on(3, 0), 1);
        C.due("step 499", x.on(500, 0), 1);
        x.pass(2);
        C.due("from step 2 on", x.on(1, 0), 1);
    }
}
