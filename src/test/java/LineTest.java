/** Promises 13 to 16: line, signIn, ofRow, wish. */
public final class LineTest {
    private static final int UNKNOWN = -1, OUTSIDE = -2, STATE = -3, NONE = -9;
    private static final int NULL = -11, CAST = -12, INDEX = -13;
    private static final Due due = new Due();

    public static void main(String[] args) {
        line();
        signIn();
        signsOfEveryKindOfPolynomial();
        ofRow();
        wish();
        refusalsOfWish();
        due.end();
    }

    private static void check(String text, int... counts) {
        RootSigns x = Due.of(text);
        for (int what = 0; what < 3; what++) {
            due.is("line " + what + " of " + text, x.line(what), counts[what]);
        }
    }

    private static void line() {
        check("p;p000", 0, 1, 1);
        check("p;p101;p-500", 0, 1, 1);
        check("p;p001", 1, 3, 2);
        check("p;p-101", 2, 5, 3);
        check("p;p-101;p010", 3, 7, 7);
        check("p;p-901;p-801;p-701;p-601", 8, 17, 9);
        check("p;p-101;p10-1;m-101;p-202", 2, 5, 3);
        // x x - 5, and that moved by 1, 2 and 3: as many ROWS as there can be, the first and the last alike
        check("p;p-501;p-4-21;p-1-41;p4-61", 8, 17, 16);
        RootSigns x = Due.of("p;p-101");
        due.is("line 3", x.line(3), OUTSIDE);
        due.is("line -1", x.line(-1), OUTSIDE);
        due.is("outside ahead of state", new RootSigns().line(3), OUTSIDE);
        for (int what = 0; what < 3; what++) {
            due.is("no polynomials", new RootSigns().line(what), STATE);
        }
    }

    private static void signIn() {
        RootSigns x = Due.of("p;p-101;p010");
        int[][] rows = {{2, 0}, {1, 0}, {0, 0}, {0, 1}, {0, 2}, {1, 2}, {2, 2}};
        for (int k = 0; k < rows.length; k++) {
            for (int p = 0; p < 2; p++) {
                due.is("signIn " + k + " " + p, x.signIn(k, p), rows[k][p]);
            }
        }
        due.is("spot 7", x.signIn(7, 0), UNKNOWN);
        due.is("spot -1", x.signIn(-1, 0), UNKNOWN);
        due.is("polynomial 2", x.signIn(0, 2), UNKNOWN);
        due.is("polynomial -1", x.signIn(0, -1), UNKNOWN);
        due.is("no polynomials", new RootSigns().signIn(0, 0), UNKNOWN);
    }

    private static void signsOfEveryKindOfPolynomial() {
        String[] texts = {"p;p000", "p;p-900", "p;p900", "p;p-310", "p;p3-10", "p;p121", "p;p-1-2-1", "p;p-201", "p;p20-1", "p;p101",
            "p;p-10-1"};
        int[][] signs = {{1}, {0}, {2}, {0, 1, 2}, {2, 1, 0}, {2, 1, 2}, {0, 1, 0}, {2, 1, 0, 1, 2}, {0, 1, 2, 1, 0}, {2}, {0}};
        for (int t = 0; t < texts.length; t++) {
            RootSigns x = Due.of(texts[t]);
            for (int k = 0; k < signs[t].length; k++) {
                due.is("sign in " + k + " of " + texts[t], x.signIn(k, 0), signs[t][k]);
            }
            due.is("no more spots of " + texts[t], x.signIn(signs[t].length, 0), UNKNOWN);
        }
    }

    private static void ofRow() {
        // SPOTS of x x - 1 and x x: ++ 0+ -+ -0 -+ 0+ ++
        RootSigns x = Due.of("p;p-101;p001");
        int[][] rows = {{0, 2, 2, 2}, {1, 2, 1, 2}, {2, 2, 0, 2}, {3, 1, 0, 1}};
        for (int r = 0; r < rows.length; r++) {
            due.is("first spot of row " + r, x.ofRow(r, 0), rows[r][0]);
            due.is("spots of row " + r, x.ofRow(r, 1), rows[r][1]);
            due.is("first sign of row " + r, x.ofRow(r, 10), rows[r][2]);
            due.is("second sign of row " + r, x.ofRow(r, 11), rows[r][3]);
            due.is("third sign of row " + r, x.ofRow(r, 12), NONE);
            due.is("fourth sign of row " + r, x.ofRow(r, 13), NONE);
            for (int what : new int[] {-1, 2, 9, 14}) {
                due.is("what " + what, x.ofRow(r, what), OUTSIDE);
            }
        }
        due.is("row 4", x.ofRow(4, 99), UNKNOWN);
        due.is("row -1", x.ofRow(-1, 99), UNKNOWN);
        due.is("no polynomials", new RootSigns().ofRow(0, 1), UNKNOWN);
        x.tune(0, 0, 0);
        due.is("tuned, row 0 twice", x.ofRow(0, 1), 2);
        due.is("tuned, row 2 is not there", x.ofRow(2, 0), UNKNOWN);
    }

    private static void wish() {
        RootSigns x = Due.of("p;p-101;p001");
        int[][] wishes = {{2, 2}, {1, 2}, {0, 2}, {0, 1}, {3, 3}, {3, 1}, {0, 3}, {1, 3}, {3, 0}, {2, 1}, {1, 1}};
        int[] spots = {0, 1, 2, 3, 0, 3, 2, 1, NONE, NONE, NONE};
        for (int lane = 0; lane < 3; lane++) {
            for (int w = 0; w < wishes.length; w++) {
                Due.write(x, 0, lane, 9, wishes[w][0], wishes[w][1]);
                due.is("wish " + w + " lane " + lane, x.wish(0, lane, 1), spots[w]);
            }
        }
        due.is("no fault", x.fault(), 0);
        Due.write(x, 0, 2, 3, 3);
        due.is("nothing behind is needed", x.wish(0, 2, 0), 0);
    }

    private static void refusalsOfWish() {
        RootSigns x = new RootSigns();
        due.is("state ahead of all", x.wish(4, 3, -1), STATE);
        Due.take(x, "p;p-101;p001");
        Due.write(x, 0, 1, 0, 0, 4, 0, -1, 3);
        due.is("sheet 4", x.wish(4, 3, -1), UNKNOWN);
        due.is("sheet -1", x.wish(-1, 3, -1), UNKNOWN);
        due.is("lane 3", x.wish(1, 3, -1), OUTSIDE);
        due.is("lane -1", x.wish(1, -1, -1), OUTSIDE);
        due.is("cast", x.wish(0, 2, -1), CAST);
        due.is("cast told", x.fault(), 2);
        due.is("null", x.wish(1, 2, -1), NULL);
        due.is("null told", x.fault(), 1);
        due.is("i below 0", x.wish(0, 1, -1), INDEX);
        due.is("one cell too few", x.wish(0, 1, 5), INDEX);
        due.is("index told", x.fault(), 3);
        due.is("i far off", x.wish(0, 1, Integer.MAX_VALUE), INDEX);
        due.is("second is 4", x.wish(0, 1, 1), OUTSIDE);
        due.is("first is 4", x.wish(0, 1, 2), OUTSIDE);
        due.is("second is -1", x.wish(0, 1, 3), OUTSIDE);
        due.is("first is -1", x.wish(0, 1, 4), OUTSIDE);
        due.is("a refusal is no fault", x.fault(), 0);
        due.is("both fine", x.wish(0, 1, 0), NONE);
    }
}
