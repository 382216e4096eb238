/** The boundary cases of READINGS and ODDS: 'Terms' part 4, promises 17 to 21. */
public final class ReadingEdgesTest {
    private static final int UNKNOWN = -1, OUTSIDE = -2, FULL = -4;
    private static final int ALL_KINDS = 7, ALL_LOWS = (1 << 19) - 1, LOWS_BELOW = (1 << 9) - 1, LOW_NOUGHT = 1 << 9;
    private static final int LOWS_ABOVE = ALL_LOWS - LOWS_BELOW - LOW_NOUGHT;
    private static final long LOST = Long.MIN_VALUE;
    private static final Due due = new Due();

    public static void main(String[] args) {
        eightAtMost();
        spotsAndSigns();
        polynomialsThatAreNotThere();
        back();
        readingsThatWentAreGone();
        withoutReadings();
        thereBeingSuchASpot();
        lowsFromTheLeastToTheGreatest();
        kindsOneByOne();
        inPlaceOfWhatItIs();
        allReadingsAreSo();
        oddsInLeastTerms();
        oddsRefused();
        due.end();
    }

    private static Scene text(String text) {
        return Scene.of(due, text).text(text).faulty();
    }

    private static Scene read(Scene from, int times) {
        Scene s = from;
        for (int r = 0; r < times; r++) {
            s = s.with("reading", 0, 0, 2);
        }
        return s;
    }

    /** "READINGS, 8 at most, numbered by how many there are"; FULL */
    private static void eightAtMost() {
        Scene s = text("p;p-101;p010");
        for (int r = 0; r < 8; r++) {
            read(s, r).is(r, "many", 3);
            read(s, r).is(r, "reading", 20, 1, 0);
        }
        Scene full = read(s, 8);
        full.is(8, "many", 3);
        full.is(FULL, "reading", 0, 0, 2);
        full.is(FULL, "reading", 20, 1, 0);
        full.is(OUTSIDE, "reading", 21, 0, 2);
        full.is(OUTSIDE, "reading", 0, 0, 3);
        full.is(UNKNOWN, "reading", 0, 2, 2);
        full.with("back", 1).is(7, "reading", 0, 0, 2);
        full.with("back", 8).is(0, "reading", 0, 0, 2);
        full.with("back", 1).with("reading", 0, 0, 2).is(FULL, "reading", 0, 0, 2);
        due.is("a READING leaves fault()", s.with("reading", 0, 0, 2).asked("fault"), 4);
    }

    /** "OUTSIDE: k (0 .. 20), sign (0 .. 2)" */
    private static void spotsAndSigns() {
        Scene s = text("p;p-101;p010").with("reading", 0, 0, 2);
        for (int k = 0; k <= 20; k++) {
            s.is(1, "reading", k, 1, k % 3);
        }
        for (int k : new int[] {Integer.MIN_VALUE, -1, 21, 22, Integer.MAX_VALUE}) {
            s.is(OUTSIDE, "reading", k, 0, 0);
        }
        for (int sign = 0; sign < 3; sign++) {
            s.is(1, "reading", 20, 0, sign);
        }
        for (int sign : new int[] {Integer.MIN_VALUE, -1, 3, 4, Integer.MAX_VALUE}) {
            s.is(OUTSIDE, "reading", 0, 0, sign);
        }
    }

    private static void polynomialsThatAreNotThere() {
        Scene s = text("p;p-101;p010").with("reading", 0, 0, 2);
        Scene none = Scene.of(due, "no polynomials").faulty();
        for (int p : new int[] {Integer.MIN_VALUE, -1, 2, 3, 4, Integer.MAX_VALUE}) {
            s.is(UNKNOWN, "reading", 0, p, 0);
            s.is(UNKNOWN, "reading", 21, p, 3);
            s.is(UNKNOWN, "kinds", p);
            s.is(UNKNOWN, "lows", p);
            none.is(UNKNOWN, "reading", 0, p, 0);
            none.is(UNKNOWN, "kinds", p);
            none.is(UNKNOWN, "lows", p);
        }
        s.is(1, "reading", 0, 1, 0);
        s.is(ALL_KINDS, "kinds", 1);
        s.is(ALL_LOWS, "lows", 1);
    }

    /** "The last n READINGS (0 .. as many as there are) are taken back: how many are left. OUTSIDE." */
    private static void back() {
        Scene s = text("p;p-101;p010");
        for (int count = 0; count <= 8; count++) {
            Scene some = read(s, count);
            for (int n = 0; n <= count; n++) {
                some.is(count - n, "back", n);
                due.is("left", some.with("back", n).asked("many", 3), count - n);
            }
            for (int n : new int[] {Integer.MIN_VALUE, -1, count + 1, Integer.MAX_VALUE}) {
                some.is(OUTSIDE, "back", n);
            }
            some.with("back", 0).isLike("none taken back", some);
        }
        Scene none = Scene.of(due, "no polynomials").faulty();
        none.is(0, "back", 0);
        none.is(OUTSIDE, "back", 1);
        none.is(OUTSIDE, "back", -1);
        due.is("back leaves fault()", read(s, 2).with("back", 1).asked("fault"), 4);
    }

    /** The last ones go, and what comes in their place is read anew. */
    private static void readingsThatWentAreGone() {
        Scene s = text("p;p-101").with("reading", 0, 0, 2).with("reading", 1, 0, 1).with("reading", 20, 0, 0);
        s.is(0, "kinds", 0);
        s.with("back", 1).isLike("as never read", text("p;p-101").with("reading", 0, 0, 2).with("reading", 1, 0, 1));
        s.with("back", 2).with("reading", 2, 0, 0).isLike("another in its place",
            text("p;p-101").with("reading", 0, 0, 2).with("reading", 2, 0, 0));
        s.with("back", 3).isLike("none", text("p;p-101"));
    }

    /** Without READINGS all are so. */
    private static void withoutReadings() {
        for (String text : new String[] {"p;p000", "p;p-101;s999;m123;p9-9-9"}) {
            for (int p = 0; p < (text.length() > 7 ? 4 : 1); p++) {
                text(text).is(ALL_KINDS, "kinds", p);
                text(text).is(ALL_LOWS, "lows", p);
            }
        }
    }

    /** "in SPOT k a POLYNOMIAL has a SIGN (there being such a SPOT)" */
    private static void thereBeingSuchASpot() {
        Scene s = text("p;p-101");
        s.with("reading", 4, 0, 2).is(ALL_KINDS, "kinds", 0);
        s.with("reading", 4, 0, 2).is(LOWS_BELOW, "lows", 0);
        for (int k = 5; k <= 20; k++) {
            for (int sign = 0; sign < 3; sign++) {
                s.with("reading", k, 0, sign).is(0, "kinds", 0);
                s.with("reading", k, 0, sign).is(0, "lows", 0);
            }
        }
        // x x and a low: five SPOTS below 0, three at 0, one above
        s.with("reading", 0, 0, 2).is(ALL_LOWS, "lows", 0);
        s.with("reading", 1, 0, 1).is(LOWS_BELOW + LOW_NOUGHT, "lows", 0);
        s.with("reading", 2, 0, 2).is(LOW_NOUGHT, "lows", 0);
        s.with("reading", 2, 0, 0).is(LOWS_BELOW, "lows", 0);
        s.with("reading", 3, 0, 1).is(LOWS_BELOW, "lows", 0);
        // the one SPOT of a line without ROOTS
        Scene nought = text("p;p000;p900");
        nought.with("reading", 0, 0, 1).is(ALL_KINDS, "kinds", 0);
        nought.with("reading", 0, 0, 1).is(LOW_NOUGHT, "lows", 0);
        nought.with("reading", 1, 0, 1).is(0, "kinds", 0);
        nought.with("reading", 1, 0, 1).is(0, "lows", 0);
        // the 17th SPOT is the last there can be
        Scene eight = text("p;p-901;p-801;p-701;p-601");
        eight.with("reading", 16, 0, 2).is(ALL_KINDS, "kinds", 0);
        eight.with("reading", 16, 1, 2).is((1 << 1) + (1 << 4) + (1 << 5) + (1 << 6) + (1 << 7) + (1 << 8), "lows", 1);
        eight.with("reading", 17, 0, 2).is(0, "kinds", 0);
        eight.with("reading", 17, 0, 2).is(0, "lows", 0);
    }

    /** "COEFFICIENT 0 from -9 .. 9, told as bit 0 .. 18 (9 more)" */
    private static void lowsFromTheLeastToTheGreatest() {
        for (String kind : new String[] {"p", "m", "s"}) {
            Scene s = text("p;" + kind + "500");
            s.with("reading", 0, 0, 0).is(LOWS_BELOW, "lows", 0);
            s.with("reading", 0, 0, 1).is(LOW_NOUGHT, "lows", 0);
            s.with("reading", 0, 0, 2).is(LOWS_ABOVE, "lows", 0);
        }
        // -9 and x: 0 just where x is 9; 9 and x: where it is -9, each shared with another's ROOT
        text("p;p010;p-910").with("reading", 2, 0, 2).with("reading", 1, 0, 1).with("reading", 1, 1, 1).is(1, "lows", 0);
        text("p;p010;p910").with("reading", 1, 0, 1).with("reading", 1, 1, 1).is(1 << 18, "lows", 0);
        text("p;p010;p810").with("reading", 1, 0, 1).with("reading", 1, 1, 1).is(1 << 17, "lows", 0);
        text("p;p010;p-810").with("reading", 1, 0, 1).with("reading", 1, 1, 1).is(2, "lows", 0);
    }

    /** "KINDS of a POLYNOMIAL: 0 .. 2": each alone, by where its ROOT is. */
    private static void kindsOneByOne() {
        // x - 3: its ROOT at 3, mirrored at -3, shifted at -4; beside it 3, -3 or -4 as a ROOT of another
        String[] others = {"p-310", "p310", "p410"};
        for (int kind = 0; kind < 3; kind++) {
            for (int now = 0; now < 3; now++) {
                Scene s = text("p;" + "pms".charAt(now) + "-310;" + others[kind]).with("reading", 1, 0, 1).with("reading", 1, 1, 1);
                s.is(1 << kind, "kinds", 0);
            }
        }
        Scene rising = text("p;p-310");
        rising.with("reading", 2, 0, 2).is(1, "kinds", 0);
        rising.with("reading", 2, 0, 0).is(6, "kinds", 0);
        rising.with("reading", 2, 0, 1).is(0, "kinds", 0);
    }

    /** "in place of what it is alone": the others stay as they are, and so does it. */
    private static void inPlaceOfWhatItIs() {
        Scene s = text("p;p500;p-500").with("reading", 0, 0, 0);
        s.is(LOWS_BELOW, "lows", 0);
        s.is(0, "lows", 1);
        s.is(0, "kinds", 0);
        s.is(0, "kinds", 1);
        Scene right = text("p;p500;p-500").with("reading", 0, 0, 2);
        right.is(LOWS_ABOVE, "lows", 0);
        right.is(ALL_LOWS, "lows", 1);
        right.is(ALL_KINDS, "kinds", 1);
        right.with("tune", 0, 0, 0).is(0, "lows", 1);
        right.with("tune", 0, 0, 0).is(LOWS_ABOVE, "lows", 0);
    }

    /** "by which all READINGS are so": one that is not spoils it, the first as the eighth. */
    private static void allReadingsAreSo() {
        for (int wrong = 0; wrong < 8; wrong++) {
            Scene s = text("p;p-101");
            for (int r = 0; r < 8; r++) {
                s = s.with("reading", 0, 0, r == wrong ? 0 : 2);
            }
            s.is(0, "kinds", 0);
            s.is(0, "lows", 0);
            Scene before = s.with("back", 8 - wrong);
            before.is(ALL_KINDS, "kinds", 0);
            before.is(ALL_LOWS, "lows", 0);
        }
        // two that say the same, and two that can't both be
        text("p;p-101").with("reading", 1, 0, 1).with("reading", 1, 0, 1).is(ALL_KINDS, "kinds", 0);
        text("p;p-101").with("reading", 1, 0, 1).with("reading", 1, 0, 0).is(0, "kinds", 0);
    }

    private static void share(Scene s, int p, int sign, int upper, int lower) {
        s.is(upper, "odds", p, sign, 0);
        s.is(lower, "odds", p, sign, 1);
    }

    /** "Shares are told as upper and lower number (above 0) in least terms." */
    private static void oddsInLeastTerms() {
        Scene alone = text("p;p000;p900;p-900");
        for (int p = 0; p < 3; p++) {
            for (int sign = 0; sign < 3; sign++) {
                int its = p == 0 ? 1 : p == 1 ? 2 : 0;
                share(alone, p, sign, sign == its ? 1 : 0, 1);
            }
        }
        Scene one = text("p;p001;p010;p000");
        share(one, 0, 0, 0, 1);
        share(one, 0, 1, 1, 3);
        share(one, 0, 2, 2, 3);
        share(one, 1, 0, 1, 3);
        share(one, 2, 1, 1, 1);
        // ROOTS -3 .. 3, fifteen SPOTS
        Scene seven = text("p;p-101;p-401;p-901;p010");
        int[][] shares = {{1, 5, 2, 15, 2, 3}, {7, 15, 2, 15, 2, 5}, {11, 15, 2, 15, 2, 15}, {7, 15, 1, 15, 7, 15}};
        for (int p = 0; p < 4; p++) {
            for (int sign = 0; sign < 3; sign++) {
                share(seven, p, sign, shares[p][2 * sign], shares[p][2 * sign + 1]);
            }
        }
        // eight ROOTS, seventeen SPOTS
        Scene eight = text("p;p-901;p-801;p-701;p-601");
        share(eight, 0, 0, 13, 17);
        share(eight, 0, 1, 2, 17);
        share(eight, 3, 0, 1, 17);
    }

    /** "LOST: UNKNOWN; OUTSIDE: sign, which." */
    private static void oddsRefused() {
        Scene s = text("p;p-101;p010");
        Scene none = Scene.of(due, "no polynomials").faulty();
        for (int p : new int[] {Integer.MIN_VALUE, -1, 2, 3, Integer.MAX_VALUE}) {
            s.is(LOST, "odds", p, 0, 0);
            none.is(LOST, "odds", p, 0, 0);
        }
        none.is(LOST, "odds", 0, 0, 0);
        for (int sign : new int[] {Integer.MIN_VALUE, -1, 3, Integer.MAX_VALUE}) {
            s.is(LOST, "odds", 0, sign, 0);
            s.is(LOST, "odds", 0, sign, 1);
        }
        for (int which : new int[] {Integer.MIN_VALUE, -1, 2, Integer.MAX_VALUE}) {
            s.is(LOST, "odds", 0, 0, which);
        }
    }
}
