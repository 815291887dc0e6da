import java.util.function.IntUnaryOperator;

/** "An object is used for at most 512 calls": the last of them answers as the first did, the dearest ones too. */
public final class LastCallTest {
    private static final Checks C = new Checks("LastCallTest");
    private static final int CALLS = 512;

    public static void main(String[] args) {
        lastOfEach();
        dearest();
        C.end();
    }

    /** So many calls of one sort, less the ones that made the object ready. */
    private static void again(String name, WhichWindow x, int before, int due, IntUnaryOperator call) {
        int wrong = 0;
        for (int i = before; i < CALLS; i++) {
            wrong += call.applyAsInt(i - before) == due ? 0 : 1;
        }
        C.due(name + ", answered otherwise", wrong, 0);
    }

    private static void lastOfEach() {
        WhichWindow a = new WhichWindow();
        again("lamp", a, 0, 1, i -> a.lamp(5) == 1 - i % 2 ? 1 : 0);
        WhichWindow b = new WhichWindow();
        again("pass", b, 0, 1, i -> b.pass(19) == 0 ? 1 : 0);
        WhichWindow c = new WhichWindow();
        again("mend", c, 0, 1, i -> c.mend(0, 6, (i + 1) % 13) == i % 13 ? 1 : 0);
        WhichWindow d = new WhichWindow();
        again("feed", d, 0, 1, i -> d.feed('a') == (i < 120 ? i + 1 : -3) ? 1 : 0);
        WhichWindow e = new WhichWindow();
        again("body", e, 0, 1, i -> e.body(7) == (i < 50 ? i : -3) ? 1 : 0);
        WhichWindow f = new WhichWindow();
        f.body(7);
        again("act", f, 1, 8, i -> f.act(0, 3, 1));
        WhichWindow g = new WhichWindow();
        again("row", g, 0, 1, i -> g.row(i % 6, i % 5, 60));
        WhichWindow h = new WhichWindow();
        again("law and feed", h, 0, 1, i -> i % 2 == 0 ? h.feed('1') : h.law());
        WhichWindow k = new WhichWindow();
        again("cut", k, 0, 0, i -> k.cut());
        WhichWindow m = new WhichWindow();
        again("image and back", m, 0, 0, i -> i % 2 == 0 ? m.image() : m.back());
        WhichWindow n = new WhichWindow();
        n.mend(0, 0, 1);
        again("undo and redo", n, 1, 0, i -> i % 2 == 0 ? n.undo() : n.redo());
    }

    /** All windows go by a long law of every name, in which each answer is another one. */
    private static WhichWindow dear() {
        WhichWindow x = new WhichWindow();
        for (int w = 0; w < 24; w++) {
            x.mend(w, 0, 6);
            x.mend(w, 2, w < 12 ? 23 - w : 23 - w);
        }
        int got = Checks.law(x, "(a+b*2+m*4+n*8+s*128+k*3)*7%11>5?(a|b)&!m|n>3;k%2=s%2?!(a&b)+m>1;((((((n*k+s))))))%5-2");
        C.due("law", got, 1);
        return x;
    }

    private static void dearest() {
        int ready = 140;
        WhichWindow a = dear();
        int set = a.set(7, 60, 1);
        again("set", a, ready, set, i -> a.set(7, 60, 1));
        WhichWindow b = dear();
        int drawn = b.drawn(5, 2060, 0);
        again("drawn", b, ready, drawn, i -> b.drawn(5, 2060, 0));
        WhichWindow c = dear();
        int game = c.game(20, 2);
        again("game", c, ready, game, i -> c.game(20, 2));
        WhichWindow d = dear();
        int round = d.round(0);
        again("round", d, ready, round, i -> d.round(0));
        WhichWindow e = dear();
        int curtain = e.curtain(7);
        again("curtain", e, ready, curtain, i -> e.curtain(7));
    }
}
