/** Promises 1 to 6: a new object, polynomials, ofPolynomial, value, tune, day. */
public final class PolynomialsTest {
    private static final int UNKNOWN = -1, OUTSIDE = -2, STATE = -3, NONE = -9;
    private static final int NULL = -11, CAST = -12, INDEX = -13, SIZE = -14;
    private static final long LOST = Long.MIN_VALUE;
    private static final Due due = new Due();

    public static void main(String[] args) {
        newObject();
        textsTaken();
        textsWithFaults();
        refusalsOfPolynomials();
        takenTextMakesAllAnew();
        ofPolynomial();
        value();
        tune();
        dayAnswers();
        dayWithFirstWrong();
        refusalsOfDay();
        due.end();
    }

    private static void newObject() {
        RootSigns x = new RootSigns();
        for (int what = 0; what < 4; what++) {
            due.is("new many " + what, x.many(what), 0);
        }
        for (int k = 0; k < 4; k++) {
            due.is("new lose " + k, x.lose(k), 0);
            due.is("new put " + k, x.put(k, 0, 1), NULL);
        }
        x = new RootSigns();
        due.is("new trace", x.trace(), 0);
        due.is("new fault", x.fault(), 0);
        due.is("new ofPolynomial", x.ofPolynomial(0, 0), UNKNOWN);
        due.is("new value", x.value(0, 0), LOST);
        due.is("new tune", x.tune(0, 0, 0), UNKNOWN);
        due.is("new called", x.called(0, 0), UNKNOWN);
        due.is("new byName", x.byName(0, 0), UNKNOWN);
        due.is("new signAt", x.signAt(0, 0, 0), UNKNOWN);
        due.is("new more", x.more(0, 0), UNKNOWN);
        due.is("new place", x.place(0, 0), UNKNOWN);
        due.is("new sharers", x.sharers(0), STATE);
        due.is("new line", x.line(1), STATE);
        due.is("new signIn", x.signIn(0, 0), UNKNOWN);
        due.is("new ofRow", x.ofRow(0, 0), UNKNOWN);
        due.is("new wish", x.wish(9, 9, 9), STATE);
        due.is("new reading", x.reading(0, 0, 0), UNKNOWN);
        due.is("new back", x.back(0), 0);
        due.is("new kinds", x.kinds(0), UNKNOWN);
        due.is("new lows", x.lows(0), UNKNOWN);
        due.is("new odds", x.odds(0, 0, 0), LOST);
        due.is("new tell", x.tell(0), UNKNOWN);
        due.is("new call", x.call(0), UNKNOWN);
        due.is("new as", x.as(0, 0), UNKNOWN);
    }

    private static void textsTaken() {
        RootSigns x = new RootSigns();
        due.is("one", Due.take(x, "p;p123"), 1);
        due.is("two", Due.take(x, "p;m-1-2-3;s000"), 2);
        due.is("three", Due.take(x, "p;s999;s-9-9-9;p0-00"), 3);
        due.is("four", Due.take(x, "p;p111;m222;s333;p-4-4-4"), 4);
        due.is("four kind 2", x.ofPolynomial(2, 0), 2);
        for (int lane = 0; lane < 3; lane++) {
            Due.write(x, 1, lane, 7, 112, 59, 115, 49, 45, 50, 51, 7);
            due.is("lane " + lane, x.polynomials(1, lane, 1, 7), 1);
            due.is("lane kind", x.ofPolynomial(0, 0), 2);
            due.is("lane coefficient 0", x.ofPolynomial(0, 10), 10);
            due.is("lane coefficient 1", x.ofPolynomial(0, 11), 7);
            due.is("lane coefficient 2", x.ofPolynomial(0, 12), 12);
        }
        // 112 + 256 is 112 when it is cut to a byte
        Due.write(x, 0, 0, 368, 59, 112, 48, 48, 48);
        due.is("cut to its lane", x.polynomials(0, 0, 0, 6), 1);
        Due.write(x, 0, 1, 368, 59, 112, 48, 48, 48);
        due.is("not cut", x.polynomials(0, 1, 0, 6), -100);
    }

    private static void textsWithFaults() {
        String[] texts = {"", "m", ";", "p", "pp", "p-", "p;", "p;;", "p;-", "p;x", "p;p", "p;m;", "p;s-", "p;s--", "p;s-p",
            "p;p1", "p;p12", "p;p12-", "p;p123", "p;p1234", "p;p123-", "p;p123;", "p;p123p", "p;p-1-2-3-", "p;p-1-2-3;",
            "p;p111;p222;p333;p444", "p;p111;p222;p333;p444;", "p;p111;p222;p333;p444;p555", "p;p111;p222;p333;p44",
            "p;p111;p222;p333;p4445", "p;P111", "p;p1/1", "p;p1:1", " p;p111"};
        int[] answers = {-100, -100, -100, -101, -101, -101, -102, -102, -102, -102, -103, -103, -104, -104, -104,
            -104, -105, -106, 1, -106, -106, -107, -106, -109, -110,
            4, -121, -121, -120,
            -121, -102, -104, -104, -100};
        for (int t = 0; t < texts.length; t++) {
            due.is("text '" + texts[t] + "'", Due.take(new RootSigns(), texts[t]), answers[t]);
        }
        RootSigns x = Due.of("p;m123;s456");
        x.reading(0, 0, 2);
        due.is("a fault", Due.take(x, "p;p12x"), -105);
        due.is("changes nothing", x.many(0), 2);
        due.is("changes no kind", x.ofPolynomial(0, 0), 1);
        due.is("changes no coefficient", x.ofPolynomial(1, 12), 15);
        due.is("changes no reading", x.many(3), 1);
    }

    private static void refusalsOfPolynomials() {
        RootSigns x = new RootSigns();
        Due.write(x, 0, 1, Due.codes("p;p123"));
        due.is("sheet -1", x.polynomials(-1, 9, -1, -1), UNKNOWN);
        due.is("sheet 4", x.polynomials(4, 9, -1, -1), UNKNOWN);
        due.is("lane -1", x.polynomials(1, -1, -1, -1), OUTSIDE);
        due.is("lane 3", x.polynomials(1, 3, -1, -1), OUTSIDE);
        due.is("cast ahead of size", x.polynomials(0, 0, -1, -1), CAST);
        due.is("cast told", x.fault(), 2);
        due.is("null ahead of size", x.polynomials(1, 0, -1, -1), NULL);
        due.is("null told", x.fault(), 1);
        due.is("size ahead of index", x.polynomials(0, 1, -1, -1), SIZE);
        due.is("size told", x.fault(), 4);
        due.is("i below 0", x.polynomials(0, 1, -1, 1), INDEX);
        due.is("index told", x.fault(), 3);
        due.is("beyond", x.polynomials(0, 1, 0, 7), INDEX);
        due.is("far beyond", x.polynomials(0, 1, 5, Integer.MAX_VALUE), INDEX);
        due.is("none at the end", x.polynomials(0, 1, 6, 0), -100);
        due.is("no fault then", x.fault(), 0);
        due.is("none behind the end", x.polynomials(0, 1, 7, 0), INDEX);
        due.is("none ahead", x.polynomials(0, 1, -1, 0), INDEX);
        due.is("refused", x.polynomials(4, 0, 0, 0), UNKNOWN);
        due.is("a refusal is no fault", x.fault(), 0);
        due.is("nothing came of all", x.many(0), 0);
    }

    private static void takenTextMakesAllAnew() {
        RootSigns x = Due.of("p;p-101;p010");
        x.reading(0, 0, 2);
        x.reading(1, 1, 0);
        due.is("readings", x.many(3), 2);
        due.is("anew", Due.take(x, "p;m-400"), 1);
        due.is("no readings", x.many(3), 0);
        due.is("one polynomial", x.many(0), 1);
        due.is("no roots", x.line(0), 0);
        due.is("no second", x.ofPolynomial(1, 0), UNKNOWN);
    }

    private static void ofPolynomial() {
        RootSigns x = Due.of("p;p1-23;m1-23;s1-23;s000");
        int[][] answers = {{0, 0, 10, 7, 12, 101, 98, 103}, {1, 0, 10, 7, 12, 101, 102, 103},
            {2, 0, 10, 7, 12, 106, 108, 103}, {2, 0, 9, 9, 9, 100, 100, 100}};
        int[] whats = {0, 1, 10, 11, 12, 20, 21, 22};
        for (int p = 0; p < 4; p++) {
            for (int w = 0; w < whats.length; w++) {
                due.is("ofPolynomial " + p + " " + whats[w], x.ofPolynomial(p, whats[w]), answers[p][w]);
            }
        }
        for (int what : new int[] {-1, 2, 9, 13, 19, 23, Integer.MIN_VALUE, Integer.MAX_VALUE}) {
            due.is("what " + what, x.ofPolynomial(0, what), OUTSIDE);
            due.is("unknown first " + what, x.ofPolynomial(4, what), UNKNOWN);
        }
        due.is("p below 0", x.ofPolynomial(-1, 0), UNKNOWN);
        // 0, one and two ROOTS; a ROOT that is there twice is one; 0 for each x has none
        String[] texts = {"p;p-201", "p;p121", "p;p101", "p;m470", "p;p500", "p;p000", "p;s-9-9-9", "p;s-9-99", "p;p19-9"};
        int[] roots = {2, 1, 0, 1, 0, 0, 0, 2, 2};
        for (int t = 0; t < texts.length; t++) {
            due.is("roots of " + texts[t], Due.of(texts[t]).ofPolynomial(0, 1), roots[t]);
        }
    }

    private static void value() {
        RootSigns x = Due.of("p;p1-23;m1-23;s1-23;p-9-9-9");
        due.is("plain at 5", x.value(0, 5), 66);
        due.is("mirrored at 5", x.value(1, 5), 86);
        due.is("shifted at 5", x.value(2, 5), 121);
        due.is("shifted at -7", x.value(2, -7), 97);
        due.is("at the farthest", x.value(0, 1000000), 2999998000001L);
        due.is("at the least", x.value(0, -1000000), 3000002000001L);
        due.is("mirrored at the farthest", x.value(1, 1000000), 3000002000001L);
        due.is("shifted at the farthest", x.value(2, 1000000), 3000008000006L);
        due.is("below", x.value(3, 1000000), -9000009000009L);
        due.is("too far", x.value(0, 1000001), LOST);
        due.is("too far below", x.value(0, -1000001), LOST);
        due.is("no such one", x.value(4, 0), LOST);
        due.is("none below 0", x.value(-1, 0), LOST);
    }

    private static void tune() {
        RootSigns x = Due.of("p;p-101;m345");
        due.is("a coefficient becomes another", x.tune(1, 2, -9), 14);
        due.is("it is that", x.ofPolynomial(1, 12), 0);
        due.is("what it is, too", x.ofPolynomial(1, 22), 91);
        due.is("what it was then", x.tune(1, 2, 9), 0);
        due.is("again", x.tune(1, 2, 0), 18);
        due.is("others stay", x.ofPolynomial(1, 11), 13);
        due.is("the other stays", x.ofPolynomial(0, 12), 10);
        due.is("roots before", x.many(1), 3);
        due.is("roots change", x.tune(0, 0, 1), 8);
        due.is("roots after", x.many(1), 1);
        due.is("the line, too", x.line(1), 3);
        due.is("k below 0", x.tune(0, -1, 0), OUTSIDE);
        due.is("k 3", x.tune(0, 3, 0), OUTSIDE);
        due.is("v 10", x.tune(0, 0, 10), OUTSIDE);
        due.is("v -10", x.tune(0, 0, -10), OUTSIDE);
        due.is("no such one", x.tune(2, 3, 10), UNKNOWN);
        due.is("none below 0", x.tune(-1, 0, 0), UNKNOWN);
        due.is("nothing changed", x.ofPolynomial(0, 10), 10);
        x.reading(0, 0, 2);
        due.is("readings stay", x.tune(0, 0, 2), 10);
        due.is("they stayed", x.many(3), 1);
    }

    private static void dayAnswers() {
        // x x - 1 and x: the ROOTS -1, 0, 1
        RootSigns x = Due.of("p;p-101;p010");
        // then: x x - 1 and x - 1; x x - 1 and 0 x - 1; 0 and -1; 5 and -1
        Due.write(x, 0, 2, 1, 0, -1, 1, 1, 0, 0, 0, 0, 0, 2, 0, 0, 0, 5, 1, 0, 9);
        int[][] answers = {{3, NONE, 7, 1, 0, 2, 1}, {2, NONE, 5, 1, 0, 2, 1}, {2, NONE, 3, 0, 1, 2, 0}, {1, NONE, 2, 0, 1, 1, 0},
            {0, NONE, 1, 0, 2, 0, 0}, {0, NONE, 1, 0, 2, 0, 0}, {0, NONE, 1, 1, 2, 0, 0}};
        int[] whats = {0, 1, 2, 3, 4, 10, 11};
        for (int n = 0; n < answers.length; n++) {
            for (int w = 0; w < whats.length; w++) {
                due.is("day " + n + " what " + whats[w], x.day(0, 2, 0, n, whats[w]), answers[n][w]);
            }
            due.is("day " + n + " what 12", x.day(0, 2, 0, n, 12), NONE);
            due.is("day " + n + " what 13", x.day(0, 2, 0, n, 13), NONE);
        }
        due.is("nothing is changed", x.line(0), 3);
        due.is("no coefficient", x.ofPolynomial(0, 10), 8);
        due.is("from another cell", x.day(0, 2, 3, 1, 0), 2);
        due.is("no threes at the end", x.day(0, 2, 18, 0, 0), 3);
        Due.write(x, 1, 2, new int[60]);
        due.is("twenty threes", x.day(1, 2, 0, 20, 0), 1);
        due.is("twenty threes, roots", x.day(1, 2, 0, 20, 10), 1);
        // ROWS that come again: x x has + 0 +
        RootSigns y = Due.of("p;p001");
        Due.write(y, 0, 0, 0, 0, -1);
        due.is("rows come again", y.day(0, 0, 0, 0, 2), 2);
        due.is("spots above 0", y.day(0, 0, 0, 0, 3), 2);
        due.is("rows come again then", y.day(0, 0, 0, 1, 2), 3);
    }

    private static void dayWithFirstWrong() {
        RootSigns x = Due.of("p;p-101;p010");
        Due.write(x, 0, 1, 1, 0, -1, 2, 0, 0, -1, 0, 0, 0, 0, 0);
        for (int what : new int[] {0, 2, 3, 4, 10, 11, 12, 13}) {
            due.is("first wrong, what " + what, x.day(0, 1, 0, 4, what), -101);
            due.is("wrong at once, what " + what, x.day(0, 1, 6, 2, what), -100);
        }
        due.is("first wrong", x.day(0, 1, 0, 4, 1), 1);
        due.is("wrong at once", x.day(0, 1, 6, 2, 1), 0);
        due.is("none is wrong", x.day(0, 1, 0, 1, 1), NONE);
        due.is("no fault", x.fault(), 0);
        // what is no act at all is told ahead of an act that can't be
        Due.write(x, 1, 1, 2, 0, 0, 0, 3, 0, 0, 0, 10);
        due.is("outside behind a wrong one", x.day(1, 1, 0, 2, 1), OUTSIDE);
        due.is("only the wrong one", x.day(1, 1, 0, 1, 1), 0);
    }

    private static void refusalsOfDay() {
        RootSigns x = new RootSigns();
        due.is("sheet first", x.day(4, 3, 0, 21, 5), UNKNOWN);
        due.is("sheet -1", x.day(-1, 0, 0, 0, 0), UNKNOWN);
        due.is("lane ahead of state", x.day(0, 3, 0, 0, 0), OUTSIDE);
        due.is("n ahead of state", x.day(0, 0, 0, 21, 0), OUTSIDE);
        due.is("n below 0", x.day(0, 0, 0, -1, 0), OUTSIDE);
        for (int what : new int[] {-1, 5, 9, 14}) {
            due.is("what " + what, x.day(0, 0, 0, 0, what), OUTSIDE);
        }
        due.is("state ahead of null", x.day(0, 0, 0, 0, 0), STATE);
        due.is("a refusal is no fault", x.fault(), 0);
        Due.take(x, "p;p-101;p010");
        Due.write(x, 0, 0, 0, 3, 0, 0, -1, 0, 0, 0, 10, 0, 0, -10);
        due.is("null", x.day(1, 0, 99, 1, 0), NULL);
        due.is("null told", x.fault(), 1);
        due.is("cast ahead of index", x.day(0, 1, 99, 1, 0), CAST);
        due.is("cast told", x.fault(), 2);
        due.is("index", x.day(0, 0, 0, 5, 0), INDEX);
        due.is("index told", x.fault(), 3);
        due.is("i below 0", x.day(0, 0, -1, 0, 0), INDEX);
        due.is("i behind the end", x.day(0, 0, 13, 0, 0), INDEX);
        due.is("i far off", x.day(0, 0, Integer.MAX_VALUE, 20, 0), INDEX);
        due.is("index ahead of outside", x.day(0, 0, 9, 2, 0), INDEX);
        for (int act = 0; act < 4; act++) {
            due.is("no act " + act, x.day(0, 0, 3 * act, 1, 1), OUTSIDE);
        }
        due.is("no fault", x.fault(), 0);
    }
}
