import java.util.Arrays;

/** The boundary cases of POLYNOMIALS: 'Terms' part 1, promises 1 and 3 to 5. */
public final class PolynomialEdgesTest {
    private static final int UNKNOWN = -1, OUTSIDE = -2, STATE = -3, NONE = -9;
    private static final int NULL = 1;
    private static final long LOST = Long.MIN_VALUE;
    private static final int[] FAR = {Integer.MIN_VALUE, Integer.MAX_VALUE};
    private static final Due due = new Due();

    public static void main(String[] args) {
        newObject();
        isNoughtForEachX();
        unlikeRoots();
        whichPolynomials();
        whatOfPolynomial();
        greatestAndLeastCoefficients();
        farthestX();
        tuneWithinItsBounds();
        tuneRefused();
        tunedLineIsTheToldOne();
        due.end();
    }

    private static Scene text(String text) {
        return Scene.of(due, text).text(text);
    }

    /** "No POLYNOMIALS, SHEETS have nothing." */
    private static void newObject() {
        Scene s = Scene.of(due, "new");
        for (int what = 0; what < 4; what++) {
            s.is(0, "many", what);
        }
        s.is(0, "trace");
        s.is(0, "fault");
        for (int k = 0; k < 4; k++) {
            s.is(0, "lose", k);
            s.fails(NULL, "put", k, 0, 1);
            s.fails(NULL, "cell", k, 0, 0);
            s.fails(NULL, "copy", k, 0, k, 0, 0);
            s.fails(NULL, "polynomials", k, 0, 0, 0);
            s.is(STATE, "day", k, 0, 0, 0, 0);
            s.is(STATE, "wish", k, 0, 0);
        }
        for (String name : new String[] {"kinds", "lows", "tell", "call"}) {
            s.is(UNKNOWN, name, 0);
        }
        for (String name : new String[] {"ofPolynomial", "called", "byName", "more", "place", "signIn", "ofRow", "as"}) {
            s.is(UNKNOWN, name, 0, 0);
        }
        for (String name : new String[] {"tune", "signAt", "reading"}) {
            s.is(UNKNOWN, name, 0, 0, 0);
        }
        s.is(LOST, "value", 0, 0);
        s.is(LOST, "odds", 0, 0, 0);
        s.is(STATE, "sharers", 0);
        s.is(STATE, "line", 0);
        s.is(0, "back", 0);
        s.is(OUTSIDE, "back", 1);
        // what one object is told is nothing to another
        RootSigns one = Due.of("p;p-101;s010");
        Due.write(one, 2, 1, 5, 6);
        one.tell(1);
        one.put(0, 0, 0);
        RootSigns other = new RootSigns();
        due.is("another has no POLYNOMIALS", other.many(0), 0);
        due.is("another has no TRACE", other.trace(), 0);
        due.is("another has no FAULT", other.fault(), 0);
        due.is("another's SHEETS have nothing", other.lose(2), 0);
        Due.take(other, "p;m700");
        due.is("the first one has its own", one.many(1), 3);
    }

    /** "one that IS 0 for each x has none" */
    private static void isNoughtForEachX() {
        for (String kind : new String[] {"p", "m", "s"}) {
            Scene nought = text("p;" + kind + "000");
            nought.is(0, "ofPolynomial", 0, 1);
            nought.is(1, "many", 2);
            nought.is(0, "many", 1);
            nought.is(0, "line", 0);
            nought.is(UNKNOWN, "called", 0, 0);
            nought.is(UNKNOWN, "place", 0, 0);
            nought.is(NONE, "byName", 0, 4);
            for (int x : new int[] {-1000000, -1, 0, 1, 1000000}) {
                nought.is(0, "value", 0, x);
            }
            // on either side: one COEFFICIENT is not 0
            for (String other : new String[] {"100", "-100", "010", "0-10", "001", "00-1"}) {
                Scene s = text("p;" + kind + other);
                s.is(0, "many", 2);
                s.is(other.endsWith("00") ? 0 : 1, "ofPolynomial", 0, 1);
            }
        }
        // told so that it IS 0 at x 0, and told so that its first COEFFICIENT IS not what is told
        text("p;s110").is(0, "many", 2);
        text("p;s110").is(100, "ofPolynomial", 0, 20);
        text("p;s100").is(101, "ofPolynomial", 0, 20);
        text("p;p000;s000;m000;p000").is(4, "many", 2);
    }

    /** "ROOTS: the real numbers x for which it IS 0, unlike ones": none, one that is there twice, two, as one number moves. */
    private static void unlikeRoots() {
        for (String kind : new String[] {"p", "m", "s"}) {
            text("p;" + kind + "221").is(0, "ofPolynomial", 0, 1);
            text("p;" + kind + "121").is(1, "ofPolynomial", 0, 1);
            text("p;" + kind + "021").is(2, "ofPolynomial", 0, 1);
            text("p;" + kind + "-2-2-1").is(0, "ofPolynomial", 0, 1);
            text("p;" + kind + "-1-2-1").is(1, "ofPolynomial", 0, 1);
            text("p;" + kind + "0-2-1").is(2, "ofPolynomial", 0, 1);
            // 9 x x + 6 x + 1, and the ones beside it
            text("p;" + kind + "159").is(0, "ofPolynomial", 0, 1);
            text("p;" + kind + "169").is(1, "ofPolynomial", 0, 1);
            text("p;" + kind + "179").is(2, "ofPolynomial", 0, 1);
        }
    }

    /** "UNKNOWN (there is no such POLYNOMIAL ..)" */
    private static void whichPolynomials() {
        Scene s = text("p;p-101;p010;s111").faulty();
        for (int p : new int[] {Integer.MIN_VALUE, -1, 3, 4, Integer.MAX_VALUE}) {
            s.is(UNKNOWN, "ofPolynomial", p, 0);
            s.is(LOST, "value", p, 0);
            s.is(UNKNOWN, "tune", p, 0, 0);
        }
        s.is(0, "ofPolynomial", 0, 0);
        s.is(2, "ofPolynomial", 2, 0);
        s.is(-1, "value", 0, 0);
        s.is(1, "value", 2, 0);
        s.is(8, "tune", 0, 0, 5);
        s.is(10, "tune", 2, 0, 5);
    }

    /** "OUTSIDE: what (0, 1, 10 .. 12, 20 .. 22)" */
    private static void whatOfPolynomial() {
        Scene s = text("p;s1-23").faulty();
        int[] fine = {0, 1, 10, 11, 12, 20, 21, 22};
        int[] answers = {2, 0, 10, 7, 12, 106, 108, 103};
        for (int w = 0; w < fine.length; w++) {
            s.is(answers[w], "ofPolynomial", 0, fine[w]);
        }
        for (int what = -5; what <= 40; what++) {
            if (Arrays.binarySearch(fine, what) < 0) {
                s.is(OUTSIDE, "ofPolynomial", 0, what);
                s.is(UNKNOWN, "ofPolynomial", 1, what);
            }
        }
        for (int what : FAR) {
            s.is(OUTSIDE, "ofPolynomial", 0, what);
        }
    }

    /** "COEFFICIENT k as told, and 9 .. COEFFICIENT k of what it IS, and 100": the greatest and the least there can be. */
    private static void greatestAndLeastCoefficients() {
        int[][] is = {{109, 91, 109}, {109, 109, 109}, {127, 127, 109}};
        for (int kind = 0; kind < 3; kind++) {
            Scene greatest = text("p;" + "pms".charAt(kind) + "9-99");
            Scene least = text("p;" + "pms".charAt(kind) + "-99-9");
            for (int k = 0; k < 3; k++) {
                greatest.is(k == 1 ? 0 : 18, "ofPolynomial", 0, 10 + k);
                least.is(k == 1 ? 18 : 0, "ofPolynomial", 0, 10 + k);
                greatest.is(is[kind][k], "ofPolynomial", 0, 20 + k);
                least.is(200 - is[kind][k], "ofPolynomial", 0, 20 + k);
            }
        }
    }

    /** "LOST: UNKNOWN; OUTSIDE: x (-1000000 .. 1000000)" */
    private static void farthestX() {
        Scene s = text("p;p9-99;m9-99;s9-99;p-99-9").faulty();
        long[] atGreatest = {8999991000009L, 9000009000009L, 9000027000027L, -8999991000009L};
        long[] atLeast = {9000009000009L, 8999991000009L, 8999973000027L, -9000009000009L};
        long[] beforeGreatest = {8999973000027L, 8999991000009L, 9000009000009L, -8999973000027L};
        for (int p = 0; p < 4; p++) {
            s.is(atGreatest[p], "value", p, 1000000);
            s.is(beforeGreatest[p], "value", p, 999999);
            s.is(LOST, "value", p, 1000001);
            s.is(LOST, "value", p, Integer.MAX_VALUE);
            s.is(atLeast[p], "value", p, -1000000);
            s.is(LOST, "value", p, -1000001);
            s.is(LOST, "value", p, Integer.MIN_VALUE);
        }
        s.is(9, "value", 0, 0);
        s.is(27, "value", 2, 0);
        s.is(9, "value", 2, -1);
    }

    /** "COEFFICIENT k of a POLYNOMIAL becomes v (-9 .. 9): what it was, and 9." */
    private static void tuneWithinItsBounds() {
        Scene s = text("p;p123;m-9-9-9;s999").faulty();
        for (int k = 0; k < 3; k++) {
            s.is(10 + k, "tune", 0, k, 9);
            s.is(0, "tune", 1, k, 9);
            s.is(18, "tune", 2, k, -9);
            for (int v = -9; v <= 9; v++) {
                Scene tuned = s.with("tune", 0, k, v);
                due.is("tuned", tuned.asked("ofPolynomial", 0, 10 + k), v + 9);
                due.is("tuned again", tuned.asked("tune", 0, k, 0), v + 9);
            }
            // what it was already
            s.with("tune", 0, k, k + 1).isLike("nothing anew", s);
        }
        due.is("tune leaves fault()", s.with("tune", 0, 0, 5).asked("fault"), 4);
    }

    /** "UNKNOWN; OUTSIDE: k, v." */
    private static void tuneRefused() {
        Scene s = text("p;p123;m-9-9-9").with("reading", 0, 0, 2).faulty();
        for (int k : new int[] {-1, 3, Integer.MIN_VALUE, Integer.MAX_VALUE}) {
            s.is(OUTSIDE, "tune", 0, k, 0);
        }
        for (int v : new int[] {-10, 10, Integer.MIN_VALUE, Integer.MAX_VALUE}) {
            for (int k = 0; k < 3; k++) {
                s.is(OUTSIDE, "tune", 1, k, v);
                s.is(UNKNOWN, "tune", 2, k, v);
            }
        }
    }

    /** A POLYNOMIAL that is tuned is as one that was told so: its ROOTS, the line, READINGS stay. */
    private static void tunedLineIsTheToldOne() {
        Scene tuned = text("p;p-101;s010;m999").with("tune", 0, 0, -4).with("tune", 1, 2, -1).with("tune", 2, 1, 0)
            .with("tune", 2, 0, 0).with("tune", 2, 2, 0);
        tuned.isLike("as told so", text("p;p-401;s01-1;m000"));
        Scene read = text("p;p-101;p010").with("reading", 0, 0, 2).with("reading", 3, 1, 1);
        read.is(2, "many", 3);
        read.with("tune", 0, 0, 1).is(2, "many", 3);
        read.with("tune", 0, 0, 1).isLike("READINGS stay as they were", text("p;p101;p010").with("reading", 0, 0, 2)
            .with("reading", 3, 1, 1));
        read.with("tune", 0, 0, 1).with("tune", 0, 0, -1).isLike("there and back", read);
    }
}
