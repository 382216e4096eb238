/** The boundary cases of SHEETS: 'Terms' part 5, promises 22 to 26. */
public final class SheetEdgesTest {
    private static final int UNKNOWN = -1, OUTSIDE = -2;
    private static final int NULL = 1, CAST = 2, INDEX = 3, SIZE = 4;
    private static final long LOST = Long.MIN_VALUE;
    private static final int[] NO_SHEETS = {Integer.MIN_VALUE, -1, 4, 5, Integer.MAX_VALUE};
    private static final int[] NO_LANES = {Integer.MIN_VALUE, -1, 3, 4, Integer.MAX_VALUE};
    private static final Due due = new Due();

    public static void main(String[] args) {
        sheetsNoughtToThree();
        rowsOfNoughtToSixty();
        noughtAtFirst();
        sheetRefused();
        aRowOfNoNumbers();
        sheetWithNothing();
        cutToItsLane();
        cellsThatAreThere();
        lanesOfACell();
        copyToAnother();
        copyToTheSame();
        copyFaults();
        copyOfNone();
        eachSheetHasItsOwn();
        due.end();
    }

    private static Scene start(String title) {
        return Scene.of(due, title).text("p;p-101").with("reading", 0, 0, 2).with("tell", 0);
    }

    /** SHEET 0 has bytes, 1 shorts, 2 ints, 3 nothing. */
    private static Scene three() {
        return start("three lanes").row(0, 0, 1, 2, 3).row(1, 1, 4, 5, 6).row(2, 2, 7, 8, 9).faulty();
    }

    /** "SHEETS 0 .. 3" */
    private static void sheetsNoughtToThree() {
        Scene s = three();
        for (int k = 0; k <= 3; k++) {
            s.is(1, "sheet", k, 1, 2);
            s.is(k == 3 ? 0 : 1, "lose", k);
            if (k < 3) {
                s.is(1, "put", k, 0, 5);
                s.is(3 * k + 1, "cell", k, 0, k);
                s.is(3, "copy", k, 0, k, 0, 3);
            } else {
                s.fails(NULL, "put", k, 0, 5);
                s.fails(NULL, "cell", k, 0, 0);
                s.fails(NULL, "copy", k, 0, k, 0, 0);
            }
        }
        for (int k : NO_SHEETS) {
            s.is(UNKNOWN, "sheet", k, 0, 1);
            s.is(UNKNOWN, "lose", k);
            s.is(UNKNOWN, "put", k, 0, 5);
            s.is(LOST, "cell", k, 0, 0);
            s.is(UNKNOWN, "copy", k, 0, 0, 0, 1);
            s.is(UNKNOWN, "copy", 0, 0, k, 0, 1);
            s.is(UNKNOWN, "copy", 3, 0, k, 0, 1);
            s.is(UNKNOWN, "copy", k, 0, 3, 0, 1);
            s.is(UNKNOWN, "copy", k, 0, k, 0, 1);
        }
    }

    /** "a row of 0 .. 60 numbers"; "OUTSIDE: lane, n above 60; SIZE" */
    private static void rowsOfNoughtToSixty() {
        Scene s = three();
        for (int lane = 0; lane < 3; lane++) {
            for (int n : new int[] {0, 1, 2, 59, 60}) {
                s.is(1, "sheet", 0, lane, n);
                Scene then = s.with("sheet", 0, lane, n);
                then.is(0, "fault");
                then.fails(INDEX, "put", 0, n, 1);
                then.fails(INDEX, "cell", 0, n, lane);
                if (n > 0) {
                    then.is(1, "put", 0, n - 1, 1);
                    then.is(0, "cell", 0, n - 1, lane);
                }
            }
            for (int n : new int[] {61, 62, Integer.MAX_VALUE}) {
                s.is(OUTSIDE, "sheet", 0, lane, n);
                s.is(OUTSIDE, "sheet", 3, lane, n);
            }
            for (int n : new int[] {-1, -2, -60, Integer.MIN_VALUE}) {
                s.fails(SIZE, "sheet", 0, lane, n);
                s.fails(SIZE, "sheet", 3, lane, n);
            }
        }
    }

    /** "(0 at first)": of a new row, too, whatever the SHEET had. */
    private static void noughtAtFirst() {
        for (int lane = 0; lane < 3; lane++) {
            Scene s = start("at first").with("sheet", 1, lane, 60);
            for (int i = 0; i < 60; i++) {
                due.is("0 at first", s.asked("cell", 1, i, lane), 0);
            }
            for (int next = 0; next < 3; next++) {
                Scene again = start("again").row(1, lane, 5, 6, 7).with("sheet", 1, next, 3);
                for (int i = 0; i < 3; i++) {
                    due.is("0 again", again.asked("cell", 1, i, next), 0);
                }
                again.isLike("a new row", start("").with("sheet", 1, next, 3));
            }
        }
    }

    private static void sheetRefused() {
        Scene s = three();
        for (int lane : NO_LANES) {
            s.is(OUTSIDE, "sheet", 0, lane, 1);
            s.is(OUTSIDE, "sheet", 3, lane, -1);
            s.is(OUTSIDE, "sheet", 3, lane, 61);
            s.is(UNKNOWN, "sheet", 4, lane, 1);
        }
    }

    /** A SHEET with a row of 0 numbers has a row, of a LANE, but no cell. */
    private static void aRowOfNoNumbers() {
        for (int lane = 0; lane < 3; lane++) {
            Scene s = start("no numbers").with("sheet", 2, lane, 0).with("sheet", 3, lane, 0).faulty();
            s.fails(INDEX, "put", 2, 0, 1);
            s.fails(INDEX, "put", 2, -1, 1);
            s.fails(INDEX, "cell", 2, 0, lane);
            s.fails(CAST, "cell", 2, 0, (lane + 1) % 3);
            s.fails(CAST, "cell", 2, 0, (lane + 2) % 3);
            s.is(0, "copy", 2, 0, 2, 0, 0);
            s.is(0, "copy", 2, 0, 3, 0, 0);
            s.fails(INDEX, "copy", 2, 0, 3, 0, 1);
            s.fails(INDEX, "copy", 2, 1, 3, 0, 0);
            s.fails(INDEX, "copy", 2, 0, 3, 1, 0);
            s.is(1, "lose", 2);
            s.with("lose", 2).is(0, "lose", 2);
            s.with("lose", 2).fails(NULL, "cell", 2, 0, lane);
        }
    }

    /** "A SHEET has nothing: 1; 0: it had nothing." */
    private static void sheetWithNothing() {
        Scene s = three();
        s.is(0, "lose", 3);
        s.with("lose", 3).isLike("it had nothing", s);
        for (int k = 0; k < 3; k++) {
            Scene lost = s.with("lose", k);
            s.is(1, "lose", k);
            lost.is(0, "lose", k);
            lost.fails(NULL, "put", k, 0, 1);
            lost.fails(NULL, "put", k, -1, 1);
            lost.fails(NULL, "put", k, 60, 1);
            for (int lane = 0; lane < 3; lane++) {
                lost.fails(NULL, "cell", k, 0, lane);
                lost.fails(NULL, "cell", k, -1, lane);
            }
            lost.with("sheet", k, k, 2).is(0, "cell", k, 1, k);
            due.is("lose leaves fault()", lost.asked("fault"), 4);
        }
    }

    /** "what comes to a cell of it is cut to its LANE" */
    private static void cutToItsLane() {
        int[][] bytes = {{127, 127}, {128, -128}, {129, -127}, {255, -1}, {256, 0}, {257, 1}, {-128, -128}, {-129, 127}, {-255, 1},
            {-256, 0}, {-257, -1}, {32767, -1}, {32768, 0}, {Integer.MAX_VALUE, -1}, {Integer.MIN_VALUE, 0}};
        int[][] shorts = {{127, 127}, {128, 128}, {256, 256}, {-129, -129}, {32767, 32767}, {32768, -32768}, {65535, -1}, {65536, 0},
            {65537, 1}, {-32768, -32768}, {-32769, 32767}, {-65536, 0}, {70001, 4465}, {Integer.MAX_VALUE, -1}, {Integer.MIN_VALUE, 0}};
        int[][] ints = {{128, 128}, {32768, 32768}, {65536, 65536}, {-32769, -32769}, {Integer.MAX_VALUE, Integer.MAX_VALUE},
            {Integer.MIN_VALUE, Integer.MIN_VALUE}, {-1, -1}};
        int[][][] lanes = {bytes, shorts, ints};
        for (int lane = 0; lane < 3; lane++) {
            for (int[] pair : lanes[lane]) {
                Scene s = start("cut").row(1, lane, 9, 9, 9);
                s.is(1, "put", 1, 1, pair[0]);
                s.with("put", 1, 1, pair[0]).is(pair[1], "cell", 1, 1, lane);
                s.with("put", 1, 1, pair[0]).is(9, "cell", 1, 0, lane);
                s.with("put", 1, 1, pair[0]).is(9, "cell", 1, 2, lane);
            }
        }
    }

    /** "UNKNOWN; NULL; INDEX", of put and of cell */
    private static void cellsThatAreThere() {
        Scene s = three();
        for (int k = 0; k < 3; k++) {
            for (int i = 0; i < 3; i++) {
                s.is(1, "put", k, i, 77);
                s.with("put", k, i, 77).is(77, "cell", k, i, k);
                s.is(3 * k + i + 1, "cell", k, i, k);
            }
            for (int i : new int[] {Integer.MIN_VALUE, -1, 3, 4, 60, Integer.MAX_VALUE}) {
                s.fails(INDEX, "put", k, i, 77);
                s.fails(INDEX, "cell", k, i, k);
            }
        }
        due.is("a put that is done takes fault() back", s.with("put", 0, 0, 1).asked("fault"), 0);
    }

    /** "taken as a row of a LANE. LOST: UNKNOWN, OUTSIDE: lane; FAULTS CAST (nothing is no CAST), NULL, INDEX." */
    private static void lanesOfACell() {
        Scene s = three();
        for (int lane = 0; lane < 3; lane++) {
            for (int k = 0; k < 3; k++) {
                if (k == lane) {
                    s.is(3 * k + 3, "cell", k, 2, lane);
                    s.fails(INDEX, "cell", k, 3, lane);
                } else {
                    s.fails(CAST, "cell", k, 2, lane);
                    s.fails(CAST, "cell", k, 3, lane);
                    s.fails(CAST, "cell", k, -1, lane);
                }
            }
            s.fails(NULL, "cell", 3, 0, lane);
        }
        for (int lane : NO_LANES) {
            s.is(LOST, "cell", 0, 0, lane);
            s.is(LOST, "cell", 3, -1, lane);
        }
    }

    private static Scene pair() {
        return start("pair").row(0, 1, 1, 2, 3, 4, 5).row(1, 1, 6, 7, 8).row(2, 2, 9).faulty();
    }

    /** "n cells of a SHEET from i on go to another one from j on, as they were: n." */
    private static void copyToAnother() {
        Scene s = pair();
        s.is(3, "copy", 0, 0, 1, 0, 3);
        s.with("copy", 0, 0, 1, 0, 3).isLike("all of them", start("").row(0, 1, 1, 2, 3, 4, 5).row(1, 1, 1, 2, 3).row(2, 2, 9));
        s.is(3, "copy", 0, 2, 1, 0, 3);
        s.with("copy", 0, 2, 1, 0, 3).isLike("from 2 on", start("").row(0, 1, 1, 2, 3, 4, 5).row(1, 1, 3, 4, 5).row(2, 2, 9));
        s.is(1, "copy", 0, 4, 1, 2, 1);
        s.with("copy", 0, 4, 1, 2, 1).isLike("the last", start("").row(0, 1, 1, 2, 3, 4, 5).row(1, 1, 6, 7, 5).row(2, 2, 9));
        s.is(3, "copy", 1, 0, 0, 2, 3);
        s.with("copy", 1, 0, 0, 2, 3).isLike("to 2 on", start("").row(0, 1, 1, 2, 6, 7, 8).row(1, 1, 6, 7, 8).row(2, 2, 9));
        due.is("a copy that is done takes fault() back", s.with("copy", 0, 0, 1, 0, 1).asked("fault"), 0);
        Scene sixty = start("sixty").with("sheet", 0, 0, 60).with("put", 0, 59, 7).with("sheet", 1, 0, 60);
        sixty.is(60, "copy", 0, 0, 1, 0, 60);
        sixty.with("copy", 0, 0, 1, 0, 60).is(7, "cell", 1, 59, 0);
        sixty.fails(INDEX, "copy", 0, 0, 1, 0, 61);
    }

    /** "(perhaps the same) .. as they were": also where what goes and where it goes overlap. */
    private static void copyToTheSame() {
        Scene s = pair();
        int[][] copies = {{0, 1, 4}, {1, 0, 4}, {0, 2, 3}, {2, 0, 3}, {0, 0, 5}, {4, 0, 1}, {0, 4, 1}, {1, 3, 2}};
        for (int[] c : copies) {
            int[] then = {1, 2, 3, 4, 5};
            System.arraycopy(new int[] {1, 2, 3, 4, 5}, c[0], then, c[1], c[2]);
            s.is(c[2], "copy", 0, c[0], 0, c[1], c[2]);
            s.with("copy", 0, c[0], 0, c[1], c[2]).isLike("as they were", start("").row(0, 1, then).row(1, 1, 6, 7, 8).row(2, 2, 9));
        }
    }

    /** "FAULTS NULL (the first, the other), CAST (unlike LANES), INDEX: i, j, n below 0 or beyond." */
    private static void copyFaults() {
        Scene s = pair();
        s.fails(NULL, "copy", 3, 0, 0, 0, 1);
        s.fails(NULL, "copy", 0, 0, 3, 0, 1);
        s.fails(NULL, "copy", 3, 0, 3, 0, 1);
        s.fails(NULL, "copy", 3, -1, 2, -1, -1);
        s.fails(CAST, "copy", 0, 0, 2, 0, 1);
        s.fails(CAST, "copy", 2, 0, 0, 0, 1);
        s.fails(CAST, "copy", 2, -1, 0, -1, -1);
        s.fails(CAST, "copy", 2, 0, 0, 0, 0);
        // SHEET 0 has five cells, SHEET 1 three
        int[][] wrong = {{-1, 0, 1}, {0, -1, 1}, {0, 0, -1}, {0, 0, 4}, {3, 0, 3}, {0, 1, 3}, {4, 0, 2}, {5, 0, 1}, {0, 3, 1}, {0, 2, 2},
            {Integer.MIN_VALUE, 0, 1}, {Integer.MAX_VALUE, 0, 1}, {0, Integer.MIN_VALUE, 1}, {0, Integer.MAX_VALUE, 1},
            {0, 0, Integer.MIN_VALUE}, {0, 0, Integer.MAX_VALUE}, {1, 1, Integer.MAX_VALUE}, {Integer.MAX_VALUE, 0, Integer.MAX_VALUE},
            {-1, 1, 2}, {1, -1, 2}, {5, 3, -1}};
        for (int[] w : wrong) {
            s.fails(INDEX, "copy", 0, w[0], 1, w[1], w[2]);
        }
        int[][] fine = {{0, 0, 3}, {2, 0, 3}, {0, 0, 1}, {4, 2, 1}, {3, 1, 2}};
        for (int[] f : fine) {
            s.is(f[2], "copy", 0, f[0], 1, f[1], f[2]);
        }
    }

    /** "INDEX (.. if none of them is taken, too)" */
    private static void copyOfNone() {
        Scene s = pair();
        for (int i = -1; i <= 6; i++) {
            for (int j = -1; j <= 4; j++) {
                if (i < 0 || i > 5 || j < 0 || j > 3) {
                    s.fails(INDEX, "copy", 0, i, 1, j, 0);
                } else {
                    s.is(0, "copy", 0, i, 1, j, 0);
                    s.with("copy", 0, i, 1, j, 0).isLike("none went", s);
                }
            }
        }
        s.fails(NULL, "copy", 3, 0, 0, 0, 0);
    }

    private static void eachSheetHasItsOwn() {
        Scene s = start("own").row(0, 2, 1, 2).row(1, 2, 3, 4).with("copy", 0, 0, 1, 0, 2);
        s.with("put", 0, 0, 9).is(1, "cell", 1, 0, 2);
        s.with("put", 1, 0, 9).is(1, "cell", 0, 0, 2);
        s.with("lose", 0).is(2, "cell", 1, 1, 2);
        s.with("sheet", 0, 2, 2).is(2, "cell", 1, 1, 2);
    }
}
