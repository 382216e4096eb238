/** The boundary cases of the line: 'Terms' part 3, promises 13 to 16. */
public final class LineEdgesTest {
    private static final int UNKNOWN = -1, OUTSIDE = -2, STATE = -3, NONE = -9;
    private static final int NULL = 1, CAST = 2, INDEX = 3;
    /** x x - 5, and that moved by 1, 2 and 3: eight ROOTS, and as many ROWS as there can be. */
    private static final String EIGHT = "p;p-501;p-4-21;p-1-41;p4-61";
    private static final Due due = new Due();

    public static void main(String[] args) {
        whatOfTheLine();
        lineWithoutRoots();
        fromOneRootToEight();
        spotsThatAreNotThere();
        aheadAndBehindAllRoots();
        rowsAreUnlike();
        rowsThatAreNotThere();
        whatOfARow();
        wishesForEachSign();
        wishesThatCannotBeMet();
        cellsOfAWish();
        wishOutside();
        sheetsAndLanesOfAWish();
        stateOfAWish();
        due.end();
    }

    private static Scene text(String text) {
        return Scene.of(due, text).text(text).faulty();
    }

    /** "How many: 0 unlike ALL ROOTS, 1 SPOTS, 2 ROWS. OUTSIDE; STATE: there are no POLYNOMIALS." */
    private static void whatOfTheLine() {
        Scene s = text("p;p-101");
        Scene none = Scene.of(due, "no polynomials").faulty();
        int[] counts = {2, 5, 3};
        for (int what = 0; what < 3; what++) {
            s.is(counts[what], "line", what);
            none.is(STATE, "line", what);
        }
        for (int what : new int[] {Integer.MIN_VALUE, -1, 3, 4, Integer.MAX_VALUE}) {
            s.is(OUTSIDE, "line", what);
            none.is(OUTSIDE, "line", what);
        }
    }

    /** "(1 in all, if there are none)" */
    private static void lineWithoutRoots() {
        for (String text : new String[] {"p;p000", "p;p900;p-900", "p;p101;m000;s-10-1;p100"}) {
            Scene s = text(text);
            s.is(0, "line", 0);
            s.is(1, "line", 1);
            s.is(1, "line", 2);
            s.is(UNKNOWN, "signIn", -1, 0);
            s.is(UNKNOWN, "signIn", 1, 0);
            s.is(0, "ofRow", 0, 0);
            s.is(1, "ofRow", 0, 1);
            s.is(UNKNOWN, "ofRow", 1, 0);
        }
        Scene four = text("p;p101;m000;s-10-1;p100");
        int[] signs = {2, 1, 0, 2};
        for (int p = 0; p < 4; p++) {
            four.is(signs[p], "signIn", 0, p);
            four.is(signs[p], "ofRow", 0, 10 + p);
        }
    }

    /** "what is ahead of all ROOTS, the first one, what is between .., to what is behind the last": 2 times as many, and 1. */
    private static void fromOneRootToEight() {
        String[] texts = {"p;p900", "p;p010", "p;p-101", "p;p-101;p010", "p;p-101;p-401", "p;p-101;p-401;p010", "p;p-101;p-401;p-901",
            "p;p-101;p-401;p-901;p010", EIGHT};
        int[] rows = {1, 3, 3, 7, 5, 11, 7, 15, 16};
        for (int roots = 0; roots <= 8; roots++) {
            Scene s = text(texts[roots]);
            s.is(roots, "line", 0);
            s.is(2 * roots + 1, "line", 1);
            s.is(rows[roots], "line", 2);
            due.isTrue("last spot of " + roots, s.asked("signIn", 2 * roots, 0) >= 0);
            s.is(UNKNOWN, "signIn", 2 * roots + 1, 0);
            due.isTrue("last row of " + roots, s.asked("ofRow", rows[roots] - 1, 0) >= 0);
            s.is(UNKNOWN, "ofRow", rows[roots], 0);
        }
    }

    /** "UNKNOWN: POLYNOMIAL, SPOT." */
    private static void spotsThatAreNotThere() {
        Scene s = text("p;p-101;p900");
        for (int k : new int[] {Integer.MIN_VALUE, -1, 5, 6, Integer.MAX_VALUE}) {
            s.is(UNKNOWN, "signIn", k, 0);
            s.is(UNKNOWN, "signIn", k, 1);
            s.is(UNKNOWN, "signIn", k, 2);
        }
        for (int p : new int[] {Integer.MIN_VALUE, -1, 2, 3, 4, Integer.MAX_VALUE}) {
            s.is(UNKNOWN, "signIn", 0, p);
            s.is(UNKNOWN, "signIn", 4, p);
        }
        s.is(2, "signIn", 0, 0);
        s.is(2, "signIn", 4, 1);
        // SPOTS that were there and are not any more
        s.with("tune", 0, 0, 0).is(2, "signIn", 2, 0);
        s.with("tune", 0, 0, 0).is(UNKNOWN, "signIn", 3, 0);
        s.with("tune", 0, 0, 1).is(UNKNOWN, "signIn", 1, 0);
    }

    /** The first and the last SPOT of each kind of POLYNOMIAL, however far off its own ROOTS are. */
    private static void aheadAndBehindAllRoots() {
        String[] others = {"p001", "p00-1", "p010", "p0-10", "p-901", "p90-1", "p910", "p-910", "p9-10", "p000", "p900", "p-900"};
        int[] ahead = {2, 0, 0, 2, 2, 0, 0, 0, 2, 1, 2, 0};
        int[] behind = {2, 0, 2, 0, 2, 0, 2, 2, 0, 1, 2, 0};
        for (int t = 0; t < others.length; t++) {
            Scene s = text("p;p-101;" + others[t]);
            int last = (int) s.asked("line", 1) - 1;
            s.is(ahead[t], "signIn", 0, 1);
            s.is(behind[t], "signIn", last, 1);
            s.is(UNKNOWN, "signIn", last + 1, 1);
        }
    }

    /** "ROWS: the unlike ones, in the order of the first SPOT of each, numbered from 0 on." */
    private static void rowsAreUnlike() {
        // SPOTS of x x - 1 and x x: ++ 0+ -+ -0 -+ 0+ ++
        Scene s = text("p;p-101;p001");
        int[][] rows = {{0, 2}, {1, 2}, {2, 2}, {3, 1}};
        for (int r = 0; r < 4; r++) {
            s.is(rows[r][0], "ofRow", r, 0);
            s.is(rows[r][1], "ofRow", r, 1);
        }
        // all alike but one; all unlike
        Scene once = text("p;p001;m001;s121;p001");
        once.is(2, "line", 2);
        once.is(2, "ofRow", 0, 1);
        once.is(1, "ofRow", 1, 1);
        Scene each = text("p;p010;p110;p-110");
        each.is(7, "line", 2);
        for (int r = 0; r < 7; r++) {
            each.is(r, "ofRow", r, 0);
            each.is(1, "ofRow", r, 1);
        }
        Scene eight = text(EIGHT);
        eight.is(2, "ofRow", 0, 1);
        eight.is(15, "ofRow", 15, 0);
        eight.is(UNKNOWN, "ofRow", 16, 0);
    }

    /** "UNKNOWN: there is no such ROW" */
    private static void rowsThatAreNotThere() {
        Scene s = text("p;p-101;p001");
        Scene none = Scene.of(due, "no polynomials").faulty();
        for (int r : new int[] {Integer.MIN_VALUE, -1, 4, 5, Integer.MAX_VALUE}) {
            for (int what : new int[] {0, 1, 2, 10, 13, 14}) {
                s.is(UNKNOWN, "ofRow", r, what);
            }
        }
        s.is(3, "ofRow", 3, 0);
        for (int what : new int[] {0, 1, 2, 10, 13}) {
            none.is(UNKNOWN, "ofRow", 0, what);
            none.is(UNKNOWN, "ofRow", 1, what);
        }
        s.with("tune", 0, 0, 0).is(1, "ofRow", 1, 0);
        s.with("tune", 0, 0, 0).is(UNKNOWN, "ofRow", 2, 0);
    }

    /** "OUTSIDE: what (0, 1, 10 .. 13)"; "NONE: there is no such POLYNOMIAL" */
    private static void whatOfARow() {
        String[] texts = {"p;p010", "p;p010;p010", "p;p010;p010;p010", "p;p010;p010;p010;p010"};
        for (int count = 1; count <= 4; count++) {
            Scene s = text(texts[count - 1]);
            for (int r = 0; r < 3; r++) {
                s.is(r, "ofRow", r, 0);
                s.is(1, "ofRow", r, 1);
                for (int p = 0; p < 4; p++) {
                    s.is(p < count ? r : NONE, "ofRow", r, 10 + p);
                }
                for (int what : new int[] {Integer.MIN_VALUE, -1, 2, 3, 9, 14, 15, Integer.MAX_VALUE}) {
                    s.is(OUTSIDE, "ofRow", r, what);
                }
            }
        }
    }

    private static Scene wishing(String text, int... cells) {
        return Scene.of(due, text).text(text).row(0, 2, cells).faulty();
    }

    /** "for each POLYNOMIAL a SIGN, or 3 (whichever)": the first SPOT that meets it. */
    private static void wishesForEachSign() {
        int[] spots = {2, 1, 0, 0};
        for (int sign = 0; sign <= 3; sign++) {
            wishing("p;p-101", sign).is(spots[sign], "wish", 0, 2, 0);
        }
        // x x - 1 and x x: ++ 0+ -+ -0 -+ 0+ ++
        int[][] both = {{NONE, 3, 2, 2}, {NONE, NONE, 1, 1}, {NONE, NONE, 0, 0}, {NONE, 3, 0, 0}};
        for (int one = 0; one <= 3; one++) {
            for (int other = 0; other <= 3; other++) {
                wishing("p;p-101;p001", one, other).is(both[one][other], "wish", 0, 2, 0);
            }
        }
        wishing(EIGHT, 3, 3, 3, 3).is(0, "wish", 0, 2, 0);
        wishing(EIGHT, 3, 3, 3, 1).is((int) text(EIGHT).asked("place", 3, 0) * 2 + 1, "wish", 0, 2, 0);
        wishing("p;p010;p-110", 2, 2).is(4, "wish", 0, 2, 0);
    }

    /** "NONE": no SPOT meets it; on a line of one SPOT, too. */
    private static void wishesThatCannotBeMet() {
        wishing("p;p000", 0).is(NONE, "wish", 0, 2, 0);
        wishing("p;p000", 1).is(0, "wish", 0, 2, 0);
        wishing("p;p000", 2).is(NONE, "wish", 0, 2, 0);
        wishing("p;p000", 3).is(0, "wish", 0, 2, 0);
        wishing("p;p101;p-900", 2, 0).is(0, "wish", 0, 2, 0);
        wishing("p;p101;p-900", 2, 1).is(NONE, "wish", 0, 2, 0);
        wishing("p;p101;p-900", 1, 0).is(NONE, "wish", 0, 2, 0);
        // behind the last of seventeen SPOTS there is none
        wishing(EIGHT, 1, 1, 1, 1).is(NONE, "wish", 0, 2, 0);
        wishing(EIGHT, 2, 0, 2, 2).is(NONE, "wish", 0, 2, 0);
        wishing(EIGHT, 3, 3, 1, 1).is(NONE, "wish", 0, 2, 0);
        // nor where SPOTS were that are not there any more
        wishing("p;p-101;p010", 3, 1).with("tune", 1, 1, 0).with("tune", 1, 0, 9).is(NONE, "wish", 0, 2, 0);
        wishing("p;p-101;p010", 2, 0).with("tune", 1, 1, 0).is(NONE, "wish", 0, 2, 0);
        wishing("p;p010;p0-10", 2, 2).is(NONE, "wish", 0, 2, 0);
        wishing("p;p010;p0-10", 1, 1).is(1, "wish", 0, 2, 0);
    }

    /** "by as many cells of a SHEET from i on as there are POLYNOMIALS"; INDEX */
    private static void cellsOfAWish() {
        String[] texts = {"p;p001", "p;p001;p001", "p;p001;p001;p001", "p;p001;p001;p001;p001"};
        for (int count = 1; count <= 4; count++) {
            Scene s = wishing(texts[count - 1], 3, 3, 3, 3, 3);
            s.is(0, "wish", 0, 2, 0);
            s.is(0, "wish", 0, 2, 5 - count);
            s.fails(INDEX, "wish", 0, 2, 6 - count);
            s.fails(INDEX, "wish", 0, 2, 5);
            s.fails(INDEX, "wish", 0, 2, 6);
            s.fails(INDEX, "wish", 0, 2, -1);
            s.fails(INDEX, "wish", 0, 2, Integer.MIN_VALUE);
            s.fails(INDEX, "wish", 0, 2, Integer.MAX_VALUE);
            s.with("sheet", 0, 2, count).is(NONE, "wish", 0, 2, 0);
            s.with("sheet", 0, 2, count - 1).fails(INDEX, "wish", 0, 2, 0);
            s.with("sheet", 0, 2, 0).fails(INDEX, "wish", 0, 2, 0);
        }
        // INDEX ahead of a cell that is not 0 .. 3
        wishing("p;p001;p001", 3, 9).fails(INDEX, "wish", 0, 2, 1);
        Scene last = Scene.of(due, "sixty").text("p;p010").with("sheet", 0, 1, 60).with("put", 0, 59, 2).faulty();
        last.is(2, "wish", 0, 1, 59);
        last.is(0, "wish", 0, 1, 58);
        last.fails(INDEX, "wish", 0, 1, 60);
    }

    /** "OUTSIDE: a cell is not 0 .. 3" */
    private static void wishOutside() {
        for (int wrong : new int[] {Integer.MIN_VALUE, -1, 4, 5, Integer.MAX_VALUE}) {
            wishing("p;p-101", wrong).is(OUTSIDE, "wish", 0, 2, 0);
            for (int place = 0; place < 4; place++) {
                int[] cells = {3, 3, 3, 3, wrong};
                wishing(EIGHT, cells).is(0, "wish", 0, 2, 0);
                cells[4] = 3;
                cells[place] = wrong;
                wishing(EIGHT, cells).is(OUTSIDE, "wish", 0, 2, 0);
                // behind a SIGN that no SPOT has, too
                int[] unmet = {0, 0, 0, 0, 3};
                unmet[place] = wrong;
                wishing(EIGHT, unmet).is(OUTSIDE, "wish", 0, 2, 0);
            }
        }
        // cut to its LANE: 256 and 2 is 2 of a byte, 65536 and 2 of a short
        Scene s = Scene.of(due, "cut").text("p;p010");
        s.row(0, 0, 258).is(2, "wish", 0, 0, 0);
        s.row(0, 1, 258).is(OUTSIDE, "wish", 0, 1, 0);
        s.row(0, 1, 65538).is(2, "wish", 0, 1, 0);
        s.row(0, 2, 65538).is(OUTSIDE, "wish", 0, 2, 0);
    }

    private static void sheetsAndLanesOfAWish() {
        Scene s = Scene.of(due, "three lanes").text("p;p010").row(0, 0, 2).row(1, 1, 2).row(2, 2, 2).faulty();
        for (int lane = 0; lane < 3; lane++) {
            for (int sheet = 0; sheet < 3; sheet++) {
                if (sheet == lane) {
                    s.is(2, "wish", sheet, lane, 0);
                } else {
                    s.fails(CAST, "wish", sheet, lane, 0);
                    s.fails(CAST, "wish", sheet, lane, 1);
                }
            }
            s.fails(NULL, "wish", 3, lane, 0);
            s.fails(NULL, "wish", 3, lane, -1);
        }
        for (int sheet : new int[] {Integer.MIN_VALUE, -1, 4, Integer.MAX_VALUE}) {
            s.is(UNKNOWN, "wish", sheet, 0, 0);
            s.is(UNKNOWN, "wish", sheet, 3, 0);
        }
        for (int lane : new int[] {Integer.MIN_VALUE, -1, 3, Integer.MAX_VALUE}) {
            s.is(OUTSIDE, "wish", 0, lane, 0);
            s.is(OUTSIDE, "wish", 3, lane, -1);
        }
    }

    /** "STATE: there are no POLYNOMIALS", ahead of all else */
    private static void stateOfAWish() {
        Scene s = Scene.of(due, "no polynomials").row(0, 0, 3, 9).faulty();
        for (int[] a : new int[][] {{0, 0, 0}, {0, 0, 2}, {0, 0, 3}, {0, 0, 1}, {0, 1, 0}, {0, 3, 0}, {1, 0, 0}, {4, 0, 0}, {-1, -1, -1}}) {
            s.is(STATE, "wish", a);
        }
        s.text("p;p010").faulty().is(0, "wish", 0, 0, 0);
    }
}
