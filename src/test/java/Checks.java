/** What the tests of the project share: they count what is not as due and end with exit code 1. */
final class Checks {
    private int wrong;
    private final String of;

    Checks(String of) {
        this.of = of;
    }

    void due(String what, long got, long want) {
        if (got != want) {
            wrong++;
            if (wrong <= 40) {
                System.out.println(of + ": " + what + " answered " + got + ", due is " + want);
            }
        }
    }

    /** Feeds a text to the tape, byte by byte. */
    static void feed(WhichWindow x, String text) {
        for (int i = 0; i < text.length(); i++) {
            x.feed(text.charAt(i));
        }
    }

    static int law(WhichWindow x, String text) {
        feed(x, text);
        return x.law();
    }

    /** Lays a row of some sort on a shelf. */
    static void lay(WhichWindow x, int shelf, int sort, long... row) {
        x.row(shelf, sort, row.length);
        for (int i = 0; i < row.length; i++) {
            x.put(shelf, i, row[i]);
        }
    }

    static void lamps(WhichWindow x, int... windows) {
        for (int window : windows) {
            x.lamp(window);
        }
    }

    void end() {
        System.out.println(of + ": " + (wrong == 0 ? "all as due" : wrong + " not as due"));
        if (wrong != 0) {
            System.exit(1);
        }
    }
}
