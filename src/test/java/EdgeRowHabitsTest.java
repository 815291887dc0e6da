/** Promise 4 with "HABITS FROM A ROW" of Terms 5, sentence by sentence. */
public final class EdgeRowHabitsTest {
    private static final Checks C = new Checks("EdgeRowHabitsTest");
    private static final int FAR = Integer.MAX_VALUE;
    private static final int LOW = Integer.MIN_VALUE;

    public static void main(String[] args) {
        badOnes();
        otherKinds();
        missing();
        whichAnswerFirst();
        howMany();
        fullRow();
        placesOfARow();
        endsWithinAThree();
        oneNotSo();
        leastAndGreatest();
        noSuchWindowBehind();
        eachAChange();
        moreChangesThanKept();
        sameAsItWas();
        undoneByOnes();
        C.end();
    }

    /** Two threes for a window of the first tower: KIND 1, SEES 13, ALSO 14; 2, 15, 16. */
    private static WhichWindow twoThrees() {
        WhichWindow x = new WhichWindow();
        Checks.lay(x, 0, 0, 1, 13, 14, 2, 15, 16);
        return x;
    }

    private static void asAtFirst(WhichWindow x, int w) {
        C.due("KIND of " + w, x.of(w, 0), 0);
        C.due("SEES of " + w, x.of(w, 1), w < 12 ? w + 12 : w - 12);
        C.due("ALSO of " + w, x.of(w, 2), w < 12 ? w + 12 : w - 12);
    }

    private static void isThree(WhichWindow x, int w, int kind, int sees, int also) {
        C.due("KIND of " + w, x.of(w, 0), kind);
        C.due("SEES of " + w, x.of(w, 1), sees);
        C.due("ALSO of " + w, x.of(w, 2), also);
    }

    /** "of WINDOWS from w on, n (1 .. 24) of them (wn: 100 w and n)": BAD. */
    private static void badOnes() {
        WhichWindow x = twoThrees();
        for (int shelf : new int[] {LOW, -1, 6, 7, FAR}) {
            C.due("shelf " + shelf, x.habits(shelf, 0, 1), -1);
        }
        for (int wn : new int[] {0, 25, 26, 99, 100, 125, 199, 2300, 2325, 2399, -1, -100, -101, -2301, LOW, FAR}) {
            C.due("wn " + wn, x.habits(0, 0, wn), -1);
        }
        for (int w = 0; w < 24; w++) {
            asAtFirst(x, w);
        }
        C.due("no change", x.count(2), 0);
    }

    /** "-12 (no ROW of bytes...)": each other sort, a LAMP of each KIND. */
    private static void otherKinds() {
        WhichWindow x = new WhichWindow();
        for (int sort = 1; sort <= 4; sort++) {
            x.row(sort, sort, 60);
            x.put(sort, 1, 12);
            x.put(sort, 2, 12);
            C.due("sort " + sort, x.habits(sort, 0, 1), -12);
            C.due("sort " + sort + ", a place that is not there", x.habits(sort, 60, 1), -12);
            C.due("sort " + sort + ", a place below 0", x.habits(sort, -1, 1), -12);
            x.row(sort, sort, 0);
            C.due("sort " + sort + " of none", x.habits(sort, 0, 1), -12);
        }
        for (int kind = 0; kind < 8; kind++) {
            x.body(kind);
            x.keep(5, kind);
            C.due("a LAMP of KIND " + kind, x.habits(5, 0, 1), -12);
        }
        C.due("the LAMP is there still", x.taken(5, 7), 7);
        C.due("no change", x.count(2), 0);
    }

    /** "a SHELF that holds nothing is missing": "it ends where the row is missing": those ahead, none. */
    private static void missing() {
        WhichWindow x = new WhichWindow();
        for (int shelf = 0; shelf < 6; shelf++) {
            C.due("missing, shelf " + shelf, x.habits(shelf, 0, 24), 0);
        }
        C.due("missing, from -1 on", x.habits(0, -1, 1), 0);
        C.due("missing, from far on", x.habits(0, FAR, 2324), 0);
        x.body(0);
        x.keep(3, 0);
        C.due("a LAMP", x.habits(3, 0, 1), -12);
        x.keep(3, -1);
        C.due("nothing again: missing", x.habits(3, 0, 1), 0);
        x.row(3, 0, 0);
        C.due("a row of none", x.habits(3, 0, 1), 0);
        C.due("no change", x.count(2), 0);
    }

    /** Several wrong at once: BAD, then -12, then what ends it. */
    private static void whichAnswerFirst() {
        WhichWindow x = new WhichWindow();
        x.row(1, 2, 3);
        C.due("a shelf that is none, and wn", x.habits(6, 0, 0), -1);
        C.due("a row of ints, and n 0", x.habits(1, 0, 0), -1);
        C.due("a row of ints, and n 25", x.habits(1, 0, 25), -1);
        C.due("a row of ints, and wn below 0", x.habits(1, -1, -1), -1);
        C.due("missing, and n 0", x.habits(0, 0, 2300), -1);
        C.due("a row of ints, and a place below 0", x.habits(1, -1, 1), -12);
    }

    /** "how many": fewer than the row has, as many, more. */
    private static void howMany() {
        WhichWindow x = twoThrees();
        C.due("one of two", x.habits(0, 0, 401), 1);
        isThree(x, 4, 1, 13, 14);
        asAtFirst(x, 5);
        x = twoThrees();
        C.due("two of two", x.habits(0, 0, 402), 2);
        isThree(x, 4, 1, 13, 14);
        isThree(x, 5, 2, 15, 16);
        asAtFirst(x, 6);
        x = twoThrees();
        C.due("twenty-four of two", x.habits(0, 0, 424), 2);
        isThree(x, 5, 2, 15, 16);
        asAtFirst(x, 6);
        C.due("the row stays", x.element(0, 5), 16);
    }

    /** A ROW of 60 bytes: twenty threes, from WINDOW 4 on to the last one. */
    private static void fullRow() {
        WhichWindow x = new WhichWindow();
        x.row(2, 0, 60);
        for (int i = 0; i < 20; i++) {
            x.put(2, 3 * i, i % 7);
            x.put(2, 3 * i + 1, i < 8 ? 23 - i : 11 - i % 12);
            x.put(2, 3 * i + 2, i < 8 ? 12 + i : i % 12);
        }
        C.due("twenty", x.habits(2, 0, 424), 20);
        for (int i = 0; i < 20; i++) {
            isThree(x, 4 + i, i % 7, i < 8 ? 23 - i : 11 - i % 12, i < 8 ? 12 + i : i % 12);
        }
        asAtFirst(x, 3);
    }

    /** "from a place on": the first, the last one with a whole three, behind it, at the end, beyond, below 0. */
    private static void placesOfARow() {
        int[][] due = {{0, 2}, {1, 0}, {2, 0}, {3, 1}, {4, 0}, {5, 0}, {6, 0}, {7, 0}, {60, 0}, {FAR, 0}, {FAR - 2, 0},
            {-1, 0}, {-2, 0}, {-3, 0}, {-6, 0}, {LOW, 0}, {LOW + 3, 0}};
        for (int[] d : due) {
            WhichWindow x = twoThrees();
            C.due("from " + d[0] + " on", x.habits(0, d[0], 702), d[1]);
            C.due("changes from " + d[0] + " on", x.count(2), 3 * d[1]);
            if (d[1] == 0) {
                asAtFirst(x, 7);
            }
        }
        WhichWindow x = twoThrees();
        C.due("from 3 on", x.habits(0, 3, 702), 1);
        isThree(x, 7, 2, 15, 16);
        asAtFirst(x, 8);
        WhichWindow y = new WhichWindow();
        y.row(0, 0, 60);
        y.put(0, 57, 6);
        y.put(0, 58, 12);
        y.put(0, 59, 23);
        C.due("the last three of sixty", y.habits(0, 57, 1124), 1);
        isThree(y, 11, 6, 12, 23);
        C.due("within the last three", y.habits(0, 58, 1124), 0);
        C.due("the last place", y.habits(0, 59, 1124), 0);
        C.due("behind the last place", y.habits(0, 60, 1124), 0);
    }

    /** "it ends where the row ... ends (within a three, too)": those ahead are so, nothing of that three. */
    private static void endsWithinAThree() {
        for (int size = 0; size <= 9; size++) {
            WhichWindow x = new WhichWindow();
            x.row(0, 0, size);
            for (int i = 0; i < size; i++) {
                x.put(0, i, i % 3 == 0 ? 5 : 20 + i % 3);
            }
            C.due("a row of " + size, x.habits(0, 0, 3), size / 3);
            for (int w = 0; w < 3; w++) {
                if (w < size / 3) {
                    isThree(x, w, 5, 21, 22);
                } else {
                    asAtFirst(x, w);
                }
            }
            C.due("changes", x.count(2), size / 3 * 3);
        }
    }

    /** "it ends where ... one is not so": KIND, SEES, ALSO one below and one above, in each tower. */
    private static void oneNotSo() {
        int[][] first = {{-1, 13, 14}, {7, 13, 14}, {-128, 13, 14}, {127, 13, 14}, {1, 11, 14}, {1, 24, 14},
            {1, -1, 14}, {1, 0, 14}, {1, 13, 11}, {1, 13, 24}, {1, 13, -128}, {1, 13, 127}, {7, 24, 24}};
        for (int[] three : first) {
            notSo(5, 3, 18, 19, three);
        }
        int[][] other = {{-1, 1, 2}, {7, 1, 2}, {1, -1, 2}, {1, 12, 2}, {1, 23, 2}, {1, 1, -1}, {1, 1, 12}, {1, 1, 24}};
        for (int[] three : other) {
            notSo(14, 3, 5, 6, three);
        }
    }

    /** A three that is so for w, and one that is not so for the next one; a third is never reached. */
    private static void notSo(int w, int kind, int sees, int also, int[] three) {
        WhichWindow x = new WhichWindow();
        Checks.lay(x, 1, 0, kind, sees, also, three[0], three[1], three[2], kind, sees, also);
        C.due("behind " + three[0] + ", " + three[1] + ", " + three[2], x.habits(1, 0, 100 * w + 3), 1);
        isThree(x, w, kind, sees, also);
        asAtFirst(x, w + 1);
        asAtFirst(x, w + 2);
        C.due("three changes", x.count(2), 3);
        C.due("from the one not so on", x.habits(1, 3, 100 * w + 3), 0);
        isThree(x, w, kind, sees, also);
        C.due("three changes", x.count(2), 3);
    }

    /** The least and the greatest KIND, SEES and ALSO of each tower are so. */
    private static void leastAndGreatest() {
        WhichWindow x = new WhichWindow();
        Checks.lay(x, 0, 0, 6, 12, 23, 6, 23, 12, 6, 0, 11, 6, 11, 0);
        C.due("10 to 13", x.habits(0, 0, 1004), 4);
        isThree(x, 10, 6, 12, 23);
        isThree(x, 11, 6, 23, 12);
        isThree(x, 12, 6, 0, 11);
        isThree(x, 13, 6, 11, 0);
        asAtFirst(x, 14);
        C.due("from 11 on: 12 sees none of its own tower", x.habits(0, 0, 1102), 1);
        isThree(x, 11, 6, 12, 23);
        isThree(x, 12, 6, 0, 11);
    }

    /** "or there is no such WINDOW: those ahead are so". */
    private static void noSuchWindowBehind() {
        WhichWindow x = new WhichWindow();
        Checks.lay(x, 0, 0, 1, 2, 3, 2, 4, 5, 3, 6, 7);
        C.due("22, 23 and none", x.habits(0, 0, 2203), 2);
        isThree(x, 22, 1, 2, 3);
        isThree(x, 23, 2, 4, 5);
        asAtFirst(x, 0);
        C.due("six changes", x.count(2), 6);
        C.due("23 and none", x.habits(0, 0, 2324), 1);
        isThree(x, 23, 1, 2, 3);
        C.due("23 alone", x.habits(0, 6, 2301), 1);
        isThree(x, 23, 3, 6, 7);
    }

    /** "(each of the three is a CHANGE of its own)", in the order KIND, SEES, ALSO. */
    private static void eachAChange() {
        WhichWindow x = twoThrees();
        C.due("two", x.habits(0, 0, 402), 2);
        C.due("six changes", x.count(2), 6);
        C.due("undo", x.undo(), 5);
        isThree(x, 5, 2, 15, 17);
        C.due("undo", x.undo(), 4);
        isThree(x, 5, 2, 17, 17);
        C.due("undo", x.undo(), 3);
        asAtFirst(x, 5);
        isThree(x, 4, 1, 13, 14);
        C.due("redo", x.redo(), 2);
        isThree(x, 5, 2, 17, 17);
        C.due("undo", x.undo(), 3);
        C.due("undo", x.undo(), 2);
        isThree(x, 4, 1, 13, 16);
        C.due("undo", x.undo(), 1);
        C.due("undo", x.undo(), 0);
        asAtFirst(x, 4);
        C.due("none", x.undo(), -5);
    }

    /** Twenty threes are sixty CHANGES; "40 at most are kept". */
    private static void moreChangesThanKept() {
        WhichWindow x = new WhichWindow();
        x.row(0, 0, 60);
        for (int i = 0; i < 20; i++) {
            x.put(0, 3 * i, 1);
            x.put(0, 3 * i + 1, i < 12 ? 12 + (i + 1) % 12 : (i + 1) % 12);
            x.put(0, 3 * i + 2, i < 12 ? 12 + (i + 2) % 12 : (i + 2) % 12);
        }
        C.due("twenty", x.habits(0, 0, 24), 20);
        C.due("forty kept", x.count(2), 40);
        for (int left = 39; left >= 0; left--) {
            C.due("undo", x.undo(), left);
        }
        C.due("none", x.undo(), -5);
        isThree(x, 5, 1, 18, 19);
        isThree(x, 6, 1, 19, 18);
        asAtFirst(x, 7);
        asAtFirst(x, 19);
    }

    /** "telling the same number is none": a row of what is told already changes nothing. */
    private static void sameAsItWas() {
        WhichWindow x = new WhichWindow();
        x.mend(9, 5, 1);
        x.mend(9, 5, 0);
        x.undo();
        Checks.lay(x, 0, 0, 0, 12, 12, 0, 13, 13);
        C.due("two as they were", x.habits(0, 0, 2), 2);
        C.due("no more changes", x.count(2), 1);
        C.due("the undone one may be done again", x.redo(), 0);
        x.undo();
        C.due("none so", x.habits(0, 1, 2), 0);
        C.due("the undone one may be done again", x.redo(), 0);
        x.undo();
        x.put(0, 3, 4);
        C.due("two, one number new", x.habits(0, 0, 2), 2);
        C.due("one change more", x.count(2), 2);
        C.due("none to do again", x.redo(), -5);
    }

    /** A row that ends leaves what was undone: nothing was told. */
    private static void undoneByOnes() {
        WhichWindow x = twoThrees();
        x.habits(0, 0, 1);
        x.undo();
        x.undo();
        C.due("within a three", x.habits(0, 4, 1), 0);
        C.due("redo", x.redo(), 1);
        C.due("redo", x.redo(), 0);
        isThree(x, 0, 1, 13, 14);
    }
}
