/** Terms 1 (THE LAW, THE TAPE) and promises 4 to 6, sentence by sentence. */
public final class EdgeLawTest {
    private static final Checks C = new Checks("EdgeLawTest");
    private static final int FAR = Integer.MAX_VALUE;
    private static final int LOW = Integer.MIN_VALUE;

    public static void main(String[] args) {
        bytesOfTheTape();
        fullTape();
        firstBytes();
        nextBytes();
        lengths();
        digits();
        open();
        lines();
        comparedOnce();
        endsTooEarly();
        wraps();
        division();
        truths();
        moreThanNothing();
        whichLineCounts();
        names();
        orderOfSigns();
        faultLeavesTheLaw();
        C.end();
    }

    /** "A byte (0 .. 255) comes to THE TAPE: how many it has. BAD". */
    private static void bytesOfTheTape() {
        WhichWindow x = new WhichWindow();
        for (int letter : new int[] {LOW, -256, -1, 256, 257, FAR}) {
            C.due("feed(" + letter + ")", x.feed(letter), -1);
            C.due("nothing came", x.count(1), 0);
        }
        C.due("feed(0)", x.feed(0), 1);
        C.due("feed(255)", x.feed(255), 2);
        C.due("feed(-1)", x.feed(-1), -1);
        C.due("feed(256)", x.feed(256), -1);
        C.due("two on it", x.count(1), 2);
        C.due("no text begins with 0", x.law(), -100);
        C.due("THE TAPE is empty then", x.count(1), 0);
        C.due("its first byte", x.feed('a'), 1);
    }

    /** "FULL (120)": the 120th comes, the 121st does not; what is refused changes nothing. */
    private static void fullTape() {
        WhichWindow x = new WhichWindow();
        x.mend(0, 0, 6);
        for (int i = 1; i <= 120; i++) {
            C.due("the " + i + ". byte", x.feed(i == 1 ? '1' : i % 2 == 0 ? '+' : i == 119 ? '0' : '1'), i);
            if (i == 119) {
                C.due("119 on it", x.count(1), 119);
            }
        }
        C.due("FULL", x.feed('a'), -3);
        C.due("FULL again", x.feed(0), -3);
        C.due("BAD is named ahead of FULL", x.feed(-1), -1);
        C.due("BAD is named ahead of FULL", x.feed(256), -1);
        C.due("120 still", x.count(1), 120);
        C.due("it ends too early, behind 120", x.law(), -220);
        C.due("empty then", x.count(1), 0);
        C.due("a byte comes again", x.feed('a'), 1);
    }

    private static int law(String text) {
        return Checks.law(new WhichWindow(), text);
    }

    /** FAULT at place 0: each of the 256 bytes by itself. */
    private static void firstBytes() {
        for (int letter = 0; letter < 256; letter++) {
            boolean whole = "abmnsk0123456789".indexOf(letter) >= 0;
            boolean begins = "(!-".indexOf(letter) >= 0;
            WhichWindow x = new WhichWindow();
            x.feed(letter);
            C.due("law of byte " + letter, x.law(), whole ? 1 : begins ? -101 : -100);
            C.due("THE TAPE is empty then", x.count(1), 0);
        }
    }

    /** FAULT at place 1: each byte behind a name, a number and a sign; "No blanks". */
    private static void nextBytes() {
        for (int letter = 0; letter < 256; letter++) {
            boolean joins = "|&<=>+-*/%?;".indexOf(letter) >= 0;
            boolean digit = letter >= '0' && letter <= '9';
            boolean operand = digit || "abmnsk".indexOf(letter) >= 0;
            boolean begins = "(!-".indexOf(letter) >= 0;
            for (char name : "abmnsk".toCharArray()) {
                C.due("behind " + name + " byte " + letter, two(name, letter), joins ? -102 : -101);
            }
            C.due("behind 1 byte " + letter, two('1', letter), digit ? 1 : joins ? -102 : -101);
            for (char sign : "!-".toCharArray()) {
                C.due("behind " + sign + " byte " + letter, two(sign, letter), operand ? 1 : begins ? -102 : -101);
            }
            C.due("behind ( byte " + letter, two('(', letter), operand || begins ? -102 : -101);
        }
        C.due("a blank ahead", law(" a"), -100);
        C.due("a blank within", law("a +b"), -101);
        C.due("a blank behind a sign", law("a+ b"), -102);
        C.due("a blank at the end", law("a "), -101);
        C.due("a blank behind ;", law("a; b"), -102);
        C.due("large letters", law("a+B"), -102);
    }

    private static int two(int one, int other) {
        WhichWindow x = new WhichWindow();
        x.feed(one);
        x.feed(other);
        return x.law();
    }

    /** A TEXT of 0, 1, 119 and 120 bytes; the FAULT in the first, the last, behind the last byte. */
    private static void lengths() {
        C.due("nothing on THE TAPE", new WhichWindow().law(), -100);
        C.due("one byte", law("a"), 1);
        StringBuilder text = new StringBuilder("a");
        while (text.length() < 119) {
            text.append("-b");
        }
        C.due("119 bytes", law(text.toString()), 1);
        C.due("120 bytes, the last one no sign", law(text + "c"), -219);
        C.due("120 bytes, the last one an operand", law(text + "a"), -219);
        C.due("120 bytes, the last one wants more", law(text + "-"), -220);
        C.due("120 bytes whole", law("12" + text.substring(1)), 1);
        C.due("118 bytes that want more", law(text.substring(0, 118)), -218);
        C.due("a fault ahead of one at the end", law("+" + text.substring(1)), -100);
        StringBuilder longest = new StringBuilder("k");
        for (int i = 0; i < 59; i++) {
            longest.append(";k");
        }
        C.due("sixty LINES", law(longest.toString()), 1);
        C.due("sixty LINES and one that is missing", law(longest + ";"), -220);
    }

    /** "a number (1 to 4 digits)". */
    private static void digits() {
        C.due("0", law("0"), 1);
        C.due("9", law("9"), 1);
        C.due("10", law("10"), 1);
        C.due("999", law("999"), 1);
        C.due("9999", law("9999"), 1);
        C.due("0000", law("0000"), 1);
        C.due("10000", law("10000"), -104);
        C.due("00000", law("00000"), -104);
        C.due("a+12345+b", law("a+12345+b"), -106);
        C.due("a name behind a number", law("1a"), -101);
        C.due("a number behind a name", law("a1"), -101);
        C.due("a name behind 4 digits", law("1234m"), -104);
        means("9999=9998+1", 1);
        means("0007=7", 1);
        means("1000*10=9999+1", 1);
    }

    /** "At most 6 of ( ! - ahead of an O are open at once." */
    private static void open() {
        C.due("six (", law("((((((a))))))"), 1);
        C.due("six !", law("!!!!!!a"), 1);
        C.due("six -", law("------a"), 1);
        C.due("six of three sorts", law("(!-(!-a))"), 1);
        C.due("seven (", law("(((((((a)))))))"), -106);
        C.due("seven !", law("!!!!!!!a"), -106);
        C.due("seven -", law("-------a"), -106);
        C.due("seven of three sorts: (", law("(!-(!-(a)))"), -106);
        C.due("seven of three sorts: !", law("(!-(!-!a))"), -106);
        C.due("seven of three sorts: -", law("(!-(!--a))"), -106);
        C.due("six, and six behind them", law("((((((a))))))+((((((b))))))"), 1);
        C.due("six !, and six behind them", law("!!!!!!a&!!!!!!b"), 1);
        C.due("six -, and six behind them", law("------a-------b"), 1);
        C.due("a - between is none", law("((((((a-b))))))"), 1);
        C.due("a - between, and a seventh", law("((((((a--b))))))"), -108);
        C.due("closed ones count no more", law("((((((a)+(b))))))"), 1);
        C.due("closed ones, and a seventh", law("((((((a)+((b)))))))"), -110);
        C.due("five and one twice", law("(((((!a&!b)))))"), 1);
        C.due("! is closed behind its O", law("(((((!a+(b))))))"), 1);
        C.due("! is open within its O", law("(((((!(a))))))"), -106);
        C.due("six in each LINE", law("((((((a))))));((((((b))))))?((((((m))))))"), 1);
        C.due("a seventh at the end", law("((((((("), -106);
        C.due("six and the end", law("(((((("), -106);
        C.due("five and the end", law("((((("), -105);
        means("((((((1))))))", 1);
        means("!!!!!!1", 1);
        means("------1", 1);
        means("-----1", 0);
        means("!!!!!1", 0);
    }

    /** "LINES, one or more, parted by ; . LINE: E, or E ? E". */
    private static void lines() {
        C.due("one", law("a"), 1);
        C.due("two", law("a;b"), 1);
        C.due("none ahead of ;", law(";a"), -100);
        C.due("none behind ;", law("a;"), -102);
        C.due("none between ; and ;", law("a;;b"), -102);
        C.due("E ? E", law("a?b"), 1);
        C.due("none ahead of ?", law("?b"), -100);
        C.due("none behind ?", law("a?"), -102);
        C.due("none between ? and ;", law("a?;b"), -102);
        C.due("no third E", law("a?b?m"), -103);
        C.due("no LINE within ( )", law("(a;b)"), -102);
        C.due("no ? within ( )", law("(a?b)"), -102);
        C.due("a ) that closes none", law("a)"), -101);
        C.due("a ) behind a closed one", law("(a))"), -103);
        C.due("nothing within ( )", law("()"), -101);
        C.due("a ( behind an O", law("a(b)"), -101);
        C.due("a ! behind an O", law("a!b"), -101);
    }

    /** "B = S, or S < S, S = S, S > S": one sign at most. */
    private static void comparedOnce() {
        for (String one : new String[] {"<", "=", ">"}) {
            C.due("a" + one + "b", law("a" + one + "b"), 1);
            for (String other : new String[] {"<", "=", ">"}) {
                C.due("a" + one + "b" + other + "m", law("a" + one + "b" + other + "m"), -103);
                C.due("a" + one + other + "m", law("a" + one + other + "m"), -102);
                C.due("(a" + one + "b)" + other + "m", law("(a" + one + "b)" + other + "m"), 1);
                C.due("a" + one + "(b" + other + "m)", law("a" + one + "(b" + other + "m)"), 1);
                C.due("a" + one + "b&a" + other + "m", law("a" + one + "b&a" + other + "m"), 1);
            }
        }
    }

    /** "the length, if it ends too early", at each place of a text that uses every sign. */
    private static void endsTooEarly() {
        String text = "(a|b)&!m<-n+12*k/s%3?(((((1)))));0";
        for (int size = 0; size <= text.length(); size++) {
            String part = text.substring(0, size);
            boolean whole = size > 0 && ")bamnsk1234567890".indexOf(part.charAt(size - 1)) >= 0
                    && part.replace(")", "").length() == part.replace("(", "").length();
            C.due("law of " + part, law(part), whole ? 1 : -100 - size);
        }
    }

    /** Whether window 3 is on behind one step by a text, out of the dark, at step 0. */
    private static void means(String text, int on) {
        WhichWindow x = new WhichWindow();
        x.mend(3, 0, 6);
        C.due("law of " + text, Checks.law(x, text), 1);
        C.due("window 3 by " + text, x.on(1, 3), on);
    }

    /** "Ints that wrap": 1024*1024*2048 is 2 to the 31st, the least int. */
    private static void wraps() {
        String low = "1024*1024*2048";
        means(low + "<0", 1);
        means(low + "-1>0", 1);
        means(low + "+0<0", 1);
        means("-(" + low + ")<0", 1);
        means("-(" + low + ")=" + low, 1);
        means("(" + low + "-1)+1<0", 1);
        means("0-1+(" + low + ")>0", 1);
        means(low + "*2=0", 1);
        means(low + "*2", 0);
        means(low + "/-1<0", 1);
        means(low + "/-1=" + low, 1);
        means(low + "%-1=0", 1);
        means("1024*1024*4096=0", 1);
        means("9999*9999*43", 1);
        means("9999*9999*22<0", 1);
        means("9999*9999*21>0", 1);
    }

    /** "/ and % toward 0, by 0 they give 0". */
    private static void division() {
        means("7/2=3", 1);
        means("-7/2=-3", 1);
        means("7/-2=-3", 1);
        means("-7/-2=3", 1);
        means("7%2=1", 1);
        means("-7%2=-1", 1);
        means("7%-2=1", 1);
        means("-7%-2=-1", 1);
        means("1/2=0", 1);
        means("-1/2=0", 1);
        means("6/6=1", 1);
        means("6%6=0", 1);
        means("5/0=0", 1);
        means("-5/0=0", 1);
        means("0/0=0", 1);
        means("5%0=0", 1);
        means("-5%0=0", 1);
        means("0%0=0", 1);
        means("1+5/0", 1);
        means("5/0", 0);
        means("1?1;1/0", 1);
        means("5/(3-3)+1", 1);
    }

    /** "| & < = > ! give 1, 0". */
    private static void truths() {
        means("(5|3)=1", 1);
        means("(5|0)=1", 1);
        means("(0|5)=1", 1);
        means("(0|0)=0", 1);
        means("(-1|0)=1", 1);
        means("(5&2)=1", 1);
        means("(5&0)=0", 1);
        means("(0&5)=0", 1);
        means("(-1&-2)=1", 1);
        means("(0&0)=0", 1);
        means("(1<2)=1", 1);
        means("(2<2)=0", 1);
        means("(3<2)=0", 1);
        means("(2=2)=1", 1);
        means("(2=3)=0", 1);
        means("(3>2)=1", 1);
        means("(2>2)=0", 1);
        means("(1>2)=0", 1);
        means("(-1<0)=1", 1);
        means("(-1>0)=0", 1);
        means("!0=1", 1);
        means("!1=0", 1);
        means("!9999=0", 1);
        means("!-1=0", 1);
        means("!!5=1", 1);
        means("-!0=-1", 1);
        means("!-0", 1);
    }

    /** "On, if it gives more than 0." */
    private static void moreThanNothing() {
        means("0", 0);
        means("1", 1);
        means("-1", 0);
        means("2", 1);
        means("9999", 1);
        means("-9999", 0);
        means("-0", 0);
        means("1-1", 0);
        means("1024*1024*2048", 0);
        means("1024*1024*2048-1", 1);
    }

    /** "The first LINE without a first E, or whose first E is not 0, counts; none: 0." */
    private static void whichLineCounts() {
        means("1;0", 1);
        means("0;1", 0);
        means("1?1;0", 1);
        means("1?0;1", 0);
        means("0?0;1", 1);
        means("0?1;0", 0);
        means("-1?1;0", 1);
        means("2?1;0", 1);
        means("1024*1024*2048?1;0", 1);
        means("0?1", 0);
        means("0?1;0?1", 0);
        means("0?1;0?1;0?1;1", 1);
        means("0?0;1?1;0", 1);
        means("0?1;1?0;1?1;1", 0);
        means("1?-1;1", 0);
        means("1-1?1;2-1?1;0", 1);
    }

    /** A name's number for window w, some lamps on, behind so many steps in deed. */
    private static void named(String text, int w, int steps, int on, int... lamps) {
        WhichWindow x = new WhichWindow();
        x.mend(w, 0, 6);
        x.mend(w, 1, w < 12 ? 12 : 0);
        x.mend(w, 2, w < 12 ? 23 : 11);
        for (int left = steps; left > 0; left -= 500) {
            x.pass(Math.min(left, 500));
        }
        Checks.lamps(x, lamps);
        C.due("law of " + text, Checks.law(x, text), 1);
        C.due("window " + w + " by " + text + " at " + steps, x.on(1, w), on);
    }

    /** "a SEES, b ALSO (1, 0), m whether it was on itself, n how many of the other tower, s the step, k the WINDOW". */
    private static void names() {
        named("a=1", 0, 0, 1, 12);
        named("a=0", 0, 0, 1, 23);
        named("b=1", 0, 0, 1, 23);
        named("b=0", 0, 0, 1, 12);
        named("a=1", 23, 0, 1, 0);
        named("b=1", 23, 0, 1, 11);
        named("b=0", 23, 0, 1, 0);
        named("m=1", 23, 0, 1, 23);
        named("m=0", 23, 0, 1, 22);
        named("n=0", 0, 0, 1);
        named("n=0", 0, 0, 1, 0, 1, 2, 3, 4, 5, 6, 7, 8, 9, 10, 11);
        named("n=12", 0, 0, 1, 12, 13, 14, 15, 16, 17, 18, 19, 20, 21, 22, 23);
        named("n=12", 23, 0, 1, 0, 1, 2, 3, 4, 5, 6, 7, 8, 9, 10, 11);
        named("n=0", 23, 0, 1, 12, 13, 14, 15, 16, 17, 18, 19, 20, 21, 22, 23);
        named("n=1", 0, 0, 1, 12);
        named("n=1", 0, 0, 1, 23);
        named("n=1", 12, 0, 1, 0);
        named("n=1", 12, 0, 1, 11);
        named("s=0", 0, 0, 1);
        named("s=1", 0, 1, 1);
        named("s=9998", 0, 9998, 1);
        named("s=9999", 0, 9999, 1);
        named("k=0", 0, 0, 1);
        named("k=11", 11, 0, 1);
        named("k=12", 12, 0, 1);
        named("k=23", 23, 0, 1);
        named("k=0", 23, 0, 0);
    }

    /** E, A, B, S, P, O: which sign binds more, and from which side. */
    private static void orderOfSigns() {
        means("1|1&0", 1);
        means("(1|1)&0", 0);
        means("0&1<2", 0);
        means("1&2<1", 0);
        means("1<2&0", 0);
        means("2<1+2", 1);
        means("1+1<2", 0);
        means("1+2*0", 1);
        means("(1+2)*0", 0);
        means("8-4-3", 1);
        means("8-(4-3)-7", 0);
        means("8/4/2=1", 1);
        means("8/(4/2)=4", 1);
        means("8%5%2=1", 1);
        means("7*2/3=4", 1);
        means("7*(2/3)=0", 1);
        means("2*-3=-6", 1);
        means("-2*3=-6", 1);
        means("!1+1", 1);
        means("!(1+1)", 0);
        means("-1+2", 1);
        means("-(1+2)", 0);
        means("5--3=8", 1);
        means("0|0?0;1", 1);
        means("0&1|1", 1);
    }

    /** "THE TAPE becomes THE LAW: 1; -100 less its FAULT; THE TAPE is empty then." */
    private static void faultLeavesTheLaw() {
        WhichWindow x = new WhichWindow();
        x.mend(0, 0, 6);
        C.due("1", Checks.law(x, "s=1"), 1);
        C.due("empty", x.count(1), 0);
        C.due("nothing on THE TAPE", x.law(), -100);
        C.due("a fault at once", Checks.law(x, "x"), -100);
        C.due("empty", x.count(1), 0);
        C.due("a fault behind whole LINES", Checks.law(x, "1;1;"), -104);
        C.due("empty", x.count(1), 0);
        C.due("a fault behind a whole text", Checks.law(x, "1 "), -101);
        C.due("the law still: step 0", x.on(1, 0), 0);
        C.due("the law still: step 1", x.on(2, 0), 1);
        C.due("the law still: step 2", x.on(3, 0), 0);
        C.due("another", Checks.law(x, "s=2"), 1);
        C.due("step 1", x.on(2, 0), 0);
        C.due("step 2", x.on(3, 0), 1);
        C.due("a tape alone is no law", feedOnly(x), 0);
        C.due("step 2", x.on(3, 0), 1);
    }

    private static int feedOnly(WhichWindow x) {
        Checks.feed(x, "1");
        return x.on(1, 0);
    }
}
