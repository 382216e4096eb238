import java.util.Arrays;

/** The boundary cases of a DAY: 'Terms' part 2, promise 6. */
public final class DayEdgesTest {
    private static final int UNKNOWN = -1, OUTSIDE = -2, STATE = -3, NONE = -9;
    private static final int NULL = 1, CAST = 2, INDEX = 3;
    private static final int[] WHATS = {0, 1, 2, 3, 4, 10, 11, 12, 13};
    private static final Due due = new Due();

    public static void main(String[] args) {
        dayWithoutThrees();
        twentyThrees();
        howManyThrees();
        whatIsAsked();
        eachPlaceOfTheFirstWrong();
        whichPolynomialIsThere();
        firstWrongOfEachWhat();
        coefficientsAndNumbers();
        outsideBehindAFirstWrong();
        dayWithoutRoots();
        dayWithEightRoots();
        polynomialsThatAreNotThere();
        stateAheadOfFaults();
        sheetsAndLanes();
        cellsFromIOn();
        laterActsCount();
        due.end();
    }

    /** x x - 1 and x; a READING, a TRACE and a latest FAULT that must stay. */
    private static Scene told() {
        return Scene.of(due, "told").text("p;p-101;p010").with("reading", 0, 0, 2).with("tell", 0);
    }

    private static Scene acts(int lane, int... cells) {
        return told().row(0, lane, cells).faulty();
    }

    private static int[] repeated(int times, int... three) {
        int[] cells = new int[3 * times];
        for (int i = 0; i < cells.length; i++) {
            cells[i] = three[i % 3];
        }
        return cells;
    }

    /** "A DAY of n threes", n 0: all is as it is now. */
    private static void dayWithoutThrees() {
        int[] now = {3, NONE, 7, 1, 0, 2, 1, NONE, NONE};
        for (int cells : new int[] {0, 1, 2, 3}) {
            Scene s = acts(0, new int[cells]);
            for (int w = 0; w < WHATS.length; w++) {
                s.is(now[w], "day", 0, 0, 0, 0, WHATS[w]);
                s.is(now[w], "day", 0, 0, cells, 0, WHATS[w]);
                s.fails(INDEX, "day", 0, 0, cells + 1, 0, WHATS[w]);
                s.fails(INDEX, "day", 0, 0, -1, 0, WHATS[w]);
            }
            if (cells < 3) {
                s.fails(INDEX, "day", 0, 0, 0, 1, 0);
            } else {
                s.is(1, "day", 0, 0, 0, 1, 10);
            }
        }
        told().faulty().fails(NULL, "day", 0, 0, 0, 0, 0);
        acts(0).fails(CAST, "day", 0, 1, 0, 0, 0);
    }

    /** "n (0 .. 20)": twenty threes are 60 cells, all that a SHEET can have. */
    private static void twentyThrees() {
        int[] cells = repeated(20, 0, 0, -1);
        cells[59] = 5;
        Scene s = acts(1, cells);
        s.is(3, "day", 0, 1, 0, 19, 0);
        s.is(1, "day", 0, 1, 0, 20, 0);
        s.is(0, "day", 0, 1, 0, 20, 10);
        s.is(NONE, "day", 0, 1, 0, 20, 1);
        s.is(OUTSIDE, "day", 0, 1, 0, 21, 0);
        s.fails(INDEX, "day", 0, 1, 1, 20, 0);
        cells[57] = 2;
        acts(1, cells).is(19, "day", 0, 1, 0, 20, 1);
        acts(1, cells).is(-119, "day", 0, 1, 0, 20, 0);
        acts(1, cells).is(NONE, "day", 0, 1, 0, 19, 1);
        Scene shorter = acts(1, Arrays.copyOf(cells, 59));
        shorter.fails(INDEX, "day", 0, 1, 0, 20, 0);
        shorter.is(3, "day", 0, 1, 0, 19, 0);
    }

    private static void howManyThrees() {
        Scene s = acts(2, repeated(3, 0, 0, 0));
        for (int n : new int[] {-1, 21, Integer.MIN_VALUE, Integer.MAX_VALUE, 1431655766}) {
            s.is(OUTSIDE, "day", 0, 2, 0, n, 0);
        }
        s.is(1, "day", 0, 2, 0, 3, 0);
        s.fails(INDEX, "day", 0, 2, 0, 4, 0);
        s.fails(INDEX, "day", 0, 2, 0, 20, 0);
    }

    /** "what (0 .. 4, 10 .. 13)" */
    private static void whatIsAsked() {
        Scene s = acts(0, 1, 0, -1);
        int[] then = {2, NONE, 5, 1, 0, 2, 1, NONE, NONE};
        for (int w = 0; w < WHATS.length; w++) {
            s.is(then[w], "day", 0, 0, 0, 1, WHATS[w]);
        }
        for (int what = -3; what <= 20; what++) {
            if (Arrays.binarySearch(WHATS, what) < 0) {
                s.is(OUTSIDE, "day", 0, 0, 0, 1, what);
            }
        }
        s.is(OUTSIDE, "day", 0, 0, 0, 1, Integer.MIN_VALUE);
        s.is(OUTSIDE, "day", 0, 0, 0, 1, Integer.MAX_VALUE);
    }

    /** "FIRST WRONG: the first act that can't be (there is no such POLYNOMIAL)." */
    private static void eachPlaceOfTheFirstWrong() {
        for (int wrong = 0; wrong < 20; wrong++) {
            int[] cells = repeated(20, 1, 1, 1);
            cells[3 * wrong] = wrong % 2 == 0 ? 2 : -1;
            cells[57] = 9;
            Scene s = acts(wrong % 3, cells);
            int lane = wrong % 3;
            due.is("first wrong", s.asked("day", 0, lane, 0, 20, 1), wrong);
            due.is("first wrong, told", s.asked("day", 0, lane, 0, 20, 4), -100 - wrong);
            due.is("it is the last", s.asked("day", 0, lane, 0, wrong + 1, 1), wrong);
            due.is("none ahead of it", s.asked("day", 0, lane, 0, wrong, 1), NONE);
            due.is("none ahead of it, told", s.asked("day", 0, lane, 0, wrong, 0), 3);
        }
        acts(0, repeated(20, 3, 1, 1)).is(0, "day", 0, 0, 0, 20, 1);
    }

    private static void whichPolynomialIsThere() {
        String[] texts = {"p;p001", "p;p001;p001", "p;p001;p001;p001", "p;p001;p001;p001;p001"};
        for (int count = 1; count <= 4; count++) {
            Scene s = Scene.of(due, count + " there").text(texts[count - 1]);
            s.row(0, 2, count - 1, 0, 1).is(NONE, "day", 0, 2, 0, 1, 1);
            s.row(0, 2, count - 1, 0, 1).is(1, "day", 0, 2, 0, 1, 4);
            for (int p : new int[] {-1, count, Integer.MIN_VALUE, Integer.MAX_VALUE}) {
                s.row(0, 2, p, 0, 1).is(0, "day", 0, 2, 0, 1, 1);
                s.row(0, 2, p, 0, 1).is(-100, "day", 0, 2, 0, 1, 4);
            }
        }
    }

    /** "of one with a FIRST WRONG: -100 less that (but what 1)" */
    private static void firstWrongOfEachWhat() {
        Scene s = acts(0, 0, 0, 0, 2, 0, 0, 0, 0, 0);
        for (int what : WHATS) {
            s.is(what == 1 ? 1 : -101, "day", 0, 0, 0, 2, what);
            s.is(what == 1 ? 1 : -101, "day", 0, 0, 0, 3, what);
            s.is(what == 1 ? 0 : -100, "day", 0, 0, 3, 1, what);
        }
        s.is(1, "day", 0, 0, 0, 1, 10);
        s.is(1, "day", 0, 0, 6, 1, 10);
    }

    /** "three by three OUTSIDE: the second is not 0 .. 2, the third is not -9 .. 9" */
    private static void coefficientsAndNumbers() {
        for (int k = 0; k <= 2; k++) {
            acts(2, 1, k, 9).is(NONE, "day", 0, 2, 0, 1, 1);
            acts(2, 1, k, -9).is(NONE, "day", 0, 2, 0, 1, 1);
            for (int v : new int[] {-10, 10, Integer.MIN_VALUE, Integer.MAX_VALUE}) {
                acts(2, 1, k, v).is(OUTSIDE, "day", 0, 2, 0, 1, 1);
                acts(2, 1, k, v).is(OUTSIDE, "day", 0, 2, 0, 1, 0);
            }
        }
        for (int k : new int[] {-1, 3, Integer.MIN_VALUE, Integer.MAX_VALUE}) {
            acts(2, 1, k, 0).is(OUTSIDE, "day", 0, 2, 0, 1, 1);
            acts(2, 1, k, 0).is(OUTSIDE, "day", 0, 2, 0, 1, 13);
            // the second three of two, and one that is not told
            acts(2, 0, 0, 0, 1, k, 0).is(OUTSIDE, "day", 0, 2, 0, 2, 0);
            acts(2, 0, 0, 0, 1, k, 0).is(1, "day", 0, 2, 0, 1, 0);
        }
        // of bytes 256 less 9 is -9, of shorts it is 247
        acts(0, 1, 256, 247).is(NONE, "day", 0, 0, 0, 1, 1);
        acts(1, 1, 256, 247).is(OUTSIDE, "day", 0, 1, 0, 1, 1);
        acts(1, 1, 65536, 65527).is(NONE, "day", 0, 1, 0, 1, 1);
        acts(2, 1, 65536, 65527).is(OUTSIDE, "day", 0, 2, 0, 1, 1);
    }

    /** A refusal comes ahead of an answer: in whichever three, of whichever POLYNOMIAL. */
    private static void outsideBehindAFirstWrong() {
        acts(0, 2, 3, 0).is(OUTSIDE, "day", 0, 0, 0, 1, 1);
        acts(0, 2, 0, 10).is(OUTSIDE, "day", 0, 0, 0, 1, 0);
        acts(0, 2, 0, 0, 0, 3, 0).is(OUTSIDE, "day", 0, 0, 0, 2, 1);
        acts(0, 2, 0, 0, 0, 0, 10).is(OUTSIDE, "day", 0, 0, 0, 2, 0);
        acts(0, 2, 0, 0, 0, 0, 10).is(0, "day", 0, 0, 0, 1, 1);
    }

    /** Then there are no ROOTS, one SPOT, one ROW; all above 0 in it or not. */
    private static void dayWithoutRoots() {
        Scene s = acts(0, 1, 1, 0, 1, 0, 9, 0, 0, 1, 0, 0, 0, 0, 2, 0);
        // x x - 1 and 0; x x - 1 and 9; x x + 1 and 9; x x and 9; 0 and 9
        int[][] then = {{2, NONE, 3, 0, 1, 2, 0}, {2, NONE, 3, 2, 1, 2, 0}, {0, NONE, 1, 1, 2, 0, 0}, {1, NONE, 2, 2, 1, 1, 0},
            {0, NONE, 1, 0, 2, 0, 0}};
        for (int n = 1; n <= 5; n++) {
            for (int w = 0; w < 7; w++) {
                s.is(then[n - 1][w], "day", 0, 0, 0, n, WHATS[w]);
            }
        }
    }

    /** As many ROOTS as there can be, then fewer: none of the first DAY's SPOTS is left in the next one. */
    private static void dayWithEightRoots() {
        int[] eight = {8, NONE, 16, 2, 0, 2, 2, 2, 2};
        int[] four = {4, NONE, 8, 2, 2, 0, 2, 2, 0};
        Scene s = Scene.of(due, "eight roots").text("p;p-501;p-4-21;p-1-41;p4-61").row(0, 0, 0, 0, 9, 3, 0, 9, 3, 1, 0).faulty();
        for (int w = 0; w < WHATS.length; w++) {
            s.is(eight[w], "day", 0, 0, 0, 0, WHATS[w]);
            s.is(four[w], "day", 0, 0, 0, 3, WHATS[w]);
            Scene before = s.with("day", 0, 0, 0, 0, WHATS[w]);
            for (int next = 0; next < WHATS.length; next++) {
                due.is("the next day", before.asked("day", 0, 0, 0, 3, WHATS[next]), four[next]);
            }
        }
    }

    /** "how many ROOTS POLYNOMIAL p has then (10 and p; NONE: there is no such one)" */
    private static void polynomialsThatAreNotThere() {
        String[] texts = {"p;p-101", "p;p-101;p-101", "p;p-101;p-101;p-101", "p;p-101;p-101;p-101;p-101"};
        for (int count = 1; count <= 4; count++) {
            Scene s = Scene.of(due, count + " there").text(texts[count - 1]).row(0, 0, 0, 0, 0);
            for (int p = 0; p < 4; p++) {
                s.is(p >= count ? NONE : 2, "day", 0, 0, 0, 0, 10 + p);
                s.is(p >= count ? NONE : p == 0 ? 1 : 2, "day", 0, 0, 0, 1, 10 + p);
            }
        }
    }

    /** "STATE: there are no POLYNOMIALS" */
    private static void stateAheadOfFaults() {
        Scene s = Scene.of(due, "no polynomials").row(0, 1, 0, 0, 0).faulty();
        for (int what : WHATS) {
            s.is(STATE, "day", 0, 1, 0, 1, what);
            s.is(STATE, "day", 0, 0, 99, 20, what);
            s.is(STATE, "day", 3, 0, -1, 0, what);
        }
        s.is(OUTSIDE, "day", 0, 1, 0, 1, 5);
        s.is(OUTSIDE, "day", 0, 1, 0, 21, 0);
        s.is(OUTSIDE, "day", 0, 3, 0, 1, 0);
        s.is(UNKNOWN, "day", 4, 1, 0, 1, 0);
        s.text("p;p001").faulty().is(1, "day", 0, 1, 0, 1, 0);
    }

    private static void sheetsAndLanes() {
        Scene s = told().row(0, 0, 0, 0, 0).row(1, 1, 0, 0, 0).row(2, 2, 0, 0, 0).faulty();
        for (int lane = 0; lane < 3; lane++) {
            for (int sheet = 0; sheet < 3; sheet++) {
                if (sheet == lane) {
                    s.is(1, "day", sheet, lane, 0, 1, 0);
                } else {
                    s.fails(CAST, "day", sheet, lane, 0, 1, 0);
                }
            }
            s.fails(NULL, "day", 3, lane, 0, 1, 0);
        }
        for (int sheet : new int[] {-1, 4, Integer.MIN_VALUE, Integer.MAX_VALUE}) {
            s.is(UNKNOWN, "day", sheet, 0, 0, 1, 0);
        }
        for (int lane : new int[] {-1, 3, Integer.MIN_VALUE, Integer.MAX_VALUE}) {
            s.is(OUTSIDE, "day", 0, lane, 0, 1, 0);
            s.is(OUTSIDE, "day", 3, lane, 0, 1, 0);
        }
    }

    private static void cellsFromIOn() {
        Scene s = acts(0, 0, 0, 0, 0, 0, 0, 0);
        s.is(1, "day", 0, 0, 0, 2, 0);
        s.is(1, "day", 0, 0, 1, 2, 0);
        s.fails(INDEX, "day", 0, 0, 2, 2, 0);
        s.fails(INDEX, "day", 0, 0, 0, 3, 0);
        s.fails(INDEX, "day", 0, 0, -1, 1, 0);
        s.is(1, "day", 0, 0, 4, 1, 0);
        s.fails(INDEX, "day", 0, 0, 5, 1, 0);
        s.fails(INDEX, "day", 0, 0, Integer.MAX_VALUE, 20, 0);
        s.fails(INDEX, "day", 0, 0, Integer.MIN_VALUE, 20, 0);
        // where the cells that are there tell an OUTSIDE or a FIRST WRONG, INDEX is ahead of it
        acts(0, 0, 3, 0).fails(INDEX, "day", 0, 0, 0, 2, 0);
        acts(0, 5, 0, 0).fails(INDEX, "day", 0, 0, 0, 2, 1);
    }

    /** "one behind another .. it becomes that": of the same COEFFICIENT the last counts, from how all is now. */
    private static void laterActsCount() {
        Scene s = acts(0, 0, 0, 5, 0, 0, 0, 0, 0, -4);
        s.is(0, "day", 0, 0, 0, 1, 10);
        s.is(1, "day", 0, 0, 0, 2, 10);
        s.is(2, "day", 0, 0, 0, 3, 10);
        s.is(0, "day", 0, 0, 0, 1, 10);
        s.with("tune", 0, 2, -1).is(2, "day", 0, 0, 0, 1, 10);
        s.with("day", 0, 0, 0, 1, 0).is(2, "ofPolynomial", 0, 1);
    }
}
