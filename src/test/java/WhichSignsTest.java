/** Promises 17 to 21: reading, back, kinds, lows, odds. */
public final class WhichSignsTest {
    private static final int UNKNOWN = -1, OUTSIDE = -2, FULL = -4;
    private static final int ALL_KINDS = 7, ALL_LOWS = (1 << 19) - 1;
    private static final long LOST = Long.MIN_VALUE;
    private static final Due due = new Due();

    public static void main(String[] args) {
        readingsAndBack();
        kinds();
        lows();
        readingsOfOthersCount();
        odds();
        due.end();
    }

    private static void readingsAndBack() {
        RootSigns x = Due.of("p;p-101;p010");
        due.is("p 2 ahead of k and sign", x.reading(21, 2, 3), UNKNOWN);
        due.is("p -1", x.reading(0, -1, 0), UNKNOWN);
        due.is("k 21", x.reading(21, 0, 0), OUTSIDE);
        due.is("k -1", x.reading(-1, 0, 0), OUTSIDE);
        due.is("sign 3", x.reading(0, 0, 3), OUTSIDE);
        due.is("sign -1", x.reading(0, 0, -1), OUTSIDE);
        for (int r = 0; r < 8; r++) {
            due.is("reading " + r, x.reading(20, r % 2, r % 3), r);
        }
        due.is("full", x.reading(0, 0, 0), FULL);
        due.is("outside ahead of full", x.reading(21, 0, 0), OUTSIDE);
        due.is("unknown ahead of full", x.reading(0, 2, 0), UNKNOWN);
        due.is("eight", x.many(3), 8);
        due.is("back 9", x.back(9), OUTSIDE);
        due.is("back -1", x.back(-1), OUTSIDE);
        due.is("back 0", x.back(0), 8);
        due.is("back 3", x.back(3), 5);
        due.is("the next number", x.reading(0, 0, 0), 5);
        due.is("back 6", x.back(6), 0);
        due.is("back 1 of none", x.back(1), OUTSIDE);
        due.is("the last ones went", x.reading(0, 0, 2), 0);
        x.reading(20, 0, 2);
        due.is("a reading that can't be", x.kinds(0), 0);
        x.back(1);
        due.is("the one that is left", x.kinds(0), ALL_KINDS);
    }

    private static void kinds() {
        RootSigns x = Due.of("p;p-310;p010");
        due.is("no readings, all kinds", x.kinds(0), ALL_KINDS);
        due.is("p 2", x.kinds(2), UNKNOWN);
        due.is("p -1", x.kinds(-1), UNKNOWN);
        // plain: root 3 behind 0; mirrored -3, shifted -4, both ahead of 0 and falling
        x.reading(1, 1, 1);
        due.is("0 is the first root", x.kinds(0), 1);
        x.back(1);
        x.reading(1, 0, 1);
        due.is("that of the first is the first", x.kinds(0), 6);
        due.is("nothing is changed", x.ofPolynomial(0, 0), 0);
        due.is("nor the line", x.signIn(1, 0), 0);
        x.reading(5, 0, 1);
        due.is("no spot 5", x.kinds(0), 0);
        due.is("no spot 5 whichever kind the other is", x.kinds(1), 0);
        // x + 1, with 0 as a root of x: mirrored 1, shifted 0
        RootSigns y = Due.of("p;p110;p010");
        y.reading(1, 0, 1);
        y.reading(1, 1, 1);
        due.is("only shifted is 0 at 0", y.kinds(0), 4);
        due.is("the kind it has is not looked at", y.ofPolynomial(0, 0), 0);
    }

    private static void lows() {
        RootSigns x = Due.of("p;p001;p010");
        due.is("no readings, all lows", x.lows(0), ALL_LOWS);
        due.is("p 2", x.lows(2), UNKNOWN);
        due.is("p -1", x.lows(-1), UNKNOWN);
        // x x + low and x: three roots, one, or 0 alone with the first above
        x.reading(6, 1, 2);
        due.is("three roots", x.lows(0), (1 << 9) - 1);
        x.back(1);
        x.reading(1, 0, 1);
        due.is("a root first", x.lows(0), (1 << 10) - 1);
        x.reading(1, 1, 1);
        due.is("0 is both's", x.lows(0), 1 << 9);
        due.is("nothing is changed", x.ofPolynomial(0, 10), 9);
        due.is("nor the line", x.line(0), 1);
        // x x has its root first: x + low has its own at 0 or behind it
        x.back(2);
        x.reading(1, 0, 1);
        due.is("lows of x", x.lows(1), ((1 << 10) - 1));
        // shifted: COEFFICIENT 0 as it is told, not of what it IS
        RootSigns y = Due.of("p;s320");
        y.reading(0, 0, 2);
        y.reading(1, 0, 1);
        due.is("falls whichever low it has", y.lows(0), ALL_LOWS);
        RootSigns z = Due.of("p;s500");
        z.reading(0, 0, 2);
        due.is("above 0", z.lows(0), ALL_LOWS - ((1 << 10) - 1));
        z.back(1);
        z.reading(0, 0, 1);
        due.is("just 0", z.lows(0), 1 << 9);
        z.back(1);
        z.reading(0, 0, 0);
        due.is("below 0", z.lows(0), (1 << 9) - 1);
        due.is("the least", z.lows(0) & 1, 1);
    }

    private static void readingsOfOthersCount() {
        // the ROOTS of the first one move the SPOTS of the other
        RootSigns x = Due.of("p;p-510;p010");
        x.reading(3, 1, 1);
        due.is("0 behind the other's root: -low below 0", x.lows(0), ALL_LOWS - ((1 << 10) - 1));
        due.is("0 behind the other's root: mirrored or shifted", x.kinds(0), 6);
        x.tune(0, 0, 5);
        due.is("after tune, plain is so, too", x.kinds(0), 1);
        due.is("the lows are as they were", x.lows(0), ALL_LOWS - ((1 << 10) - 1));
    }

    private static void odds() {
        // SPOTS of x x - 1: + 0 - 0 +
        RootSigns x = Due.of("p;p-101;p000;p900");
        long[][] shares = {{1, 5, 2, 5, 2, 5}, {0, 1, 1, 1, 0, 1}, {0, 1, 0, 1, 1, 1}};
        for (int p = 0; p < 3; p++) {
            for (int sign = 0; sign < 3; sign++) {
                due.is("odds, upper " + p + " " + sign, x.odds(p, sign, 0), shares[p][2 * sign]);
                due.is("odds, lower " + p + " " + sign, x.odds(p, sign, 1), shares[p][2 * sign + 1]);
            }
        }
        // four roots, nine spots: -2 of x + 2 and 1, 2, 3: the sign of x - 1 is below in 3, 0 in 1, above in 5
        RootSigns y = Due.of("p;p-110;p210;p-210;p-310");
        due.is("least terms, upper", y.odds(0, 0, 0), 1);
        due.is("least terms, lower", y.odds(0, 0, 1), 3);
        due.is("above, upper", y.odds(0, 2, 0), 5);
        due.is("above, lower", y.odds(0, 2, 1), 9);
        due.is("p 3", x.odds(3, 0, 0), LOST);
        due.is("p -1", x.odds(-1, 0, 0), LOST);
        due.is("sign 3", x.odds(0, 3, 0), LOST);
        due.is("sign -1", x.odds(0, -1, 0), LOST);
        due.is("which 2", x.odds(0, 0, 2), LOST);
        due.is("which -1", x.odds(0, 0, -1), LOST);
    }
}
