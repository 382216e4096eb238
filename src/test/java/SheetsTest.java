/** Promises 22 to 26 and 31: sheet, lose, put, cell, copy, and what fault() tells of them. */
public final class SheetsTest {
    private static final int UNKNOWN = -1, OUTSIDE = -2;
    private static final int NULL = -11, CAST = -12, INDEX = -13, SIZE = -14;
    private static final long LOST = Long.MIN_VALUE;
    private static final Due due = new Due();

    public static void main(String[] args) {
        sheet();
        lose();
        putAndCell();
        refusalsOfCell();
        copy();
        refusalsOfCopy();
        fault();
        due.end();
    }

    private static void sheet() {
        RootSigns x = new RootSigns();
        due.is("sheet 4", x.sheet(4, 3, -1), UNKNOWN);
        due.is("sheet -1", x.sheet(-1, 0, 1), UNKNOWN);
        due.is("lane 3", x.sheet(0, 3, -1), OUTSIDE);
        due.is("lane -1", x.sheet(0, -1, -1), OUTSIDE);
        due.is("n 61", x.sheet(0, 0, 61), OUTSIDE);
        due.is("n far off", x.sheet(0, 0, Integer.MAX_VALUE), OUTSIDE);
        due.is("n -1", x.sheet(0, 0, -1), SIZE);
        due.is("size told", x.fault(), 4);
        due.is("n far below", x.sheet(0, 0, Integer.MIN_VALUE), SIZE);
        due.is("nothing came of it", x.lose(0), 0);
        for (int k = 0; k < 4; k++) {
            due.is("60 cells", x.sheet(k, k % 3, 60), 1);
            due.is("no fault", x.fault(), 0);
            due.is("0 at first", x.cell(k, 59, k % 3), 0);
            due.is("no cell 60", x.cell(k, 60, k % 3), LOST);
        }
        x.put(0, 5, 9);
        due.is("a new row", x.sheet(0, 0, 6), 1);
        due.is("of 0", x.cell(0, 5, 0), 0);
        due.is("of another lane", x.sheet(0, 2, 0), 1);
        due.is("no cells", x.put(0, 0, 1), INDEX);
        x.sheet(1, 1, 3);
        x.put(1, 2, 7);
        x.sheet(1, 2, 61);
        x.sheet(1, 2, -1);
        due.is("a refusal changes nothing", x.cell(1, 2, 1), 7);
    }

    private static void lose() {
        RootSigns x = new RootSigns();
        due.is("had nothing", x.lose(2), 0);
        x.sheet(2, 0, 0);
        due.is("had a row of no cells", x.lose(2), 1);
        due.is("has nothing", x.put(2, 0, 0), NULL);
        due.is("had nothing again", x.lose(2), 0);
        due.is("sheet 4", x.lose(4), UNKNOWN);
        due.is("sheet -1", x.lose(-1), UNKNOWN);
    }

    private static void putAndCell() {
        int[] numbers = {0, 127, 128, 255, 256, -128, -129, 32767, 32768, 65535, -32768, -32769, 70001, Integer.MAX_VALUE,
            Integer.MIN_VALUE};
        RootSigns x = new RootSigns();
        for (int lane = 0; lane < 3; lane++) {
            Due.write(x, lane, lane, numbers);
            for (int i = 0; i < numbers.length; i++) {
                int cut = lane == 0 ? (byte) numbers[i] : lane == 1 ? (short) numbers[i] : numbers[i];
                due.is("lane " + lane + " cell " + i, x.cell(lane, i, lane), cut);
            }
        }
        due.is("put answers", x.put(0, 0, 5), 1);
        due.is("it is there", x.cell(0, 0, 0), 5);
        due.is("the next is not changed", x.cell(0, 1, 0), 127);
        due.is("sheet 4", x.put(4, 0, 0), UNKNOWN);
        due.is("sheet -1", x.put(-1, 0, 0), UNKNOWN);
        due.is("null", x.put(3, -1, 0), NULL);
        due.is("null told", x.fault(), 1);
        due.is("i -1", x.put(0, -1, 0), INDEX);
        due.is("i too large", x.put(0, numbers.length, 0), INDEX);
        due.is("index told", x.fault(), 3);
        due.is("i far off", x.put(0, Integer.MIN_VALUE, 0), INDEX);
    }

    private static void refusalsOfCell() {
        RootSigns x = new RootSigns();
        Due.write(x, 0, 1, 5, 6);
        due.is("it is there", x.cell(0, 1, 1), 6);
        due.is("no fault", x.fault(), 0);
        due.is("cast ahead of index", x.cell(0, -1, 2), LOST);
        due.is("cast told", x.fault(), 2);
        due.is("null, no cast", x.cell(1, -1, 2), LOST);
        due.is("null told", x.fault(), 1);
        due.is("index", x.cell(0, 2, 1), LOST);
        due.is("index told", x.fault(), 3);
        due.is("index below 0", x.cell(0, -1, 1), LOST);
        due.is("index told again", x.fault(), 3);
        due.is("sheet 4", x.cell(4, 0, 1), LOST);
        due.is("refused, no fault", x.fault(), 0);
        x.cell(0, 2, 1);
        due.is("lane 3", x.cell(0, 2, 3), LOST);
        due.is("outside, no fault", x.fault(), 0);
        x.cell(0, 2, 1);
        due.is("lane -1", x.cell(1, 0, -1), LOST);
        due.is("outside ahead of null", x.fault(), 0);
    }

    private static void same(RootSigns x, int k, int lane, int... numbers) {
        for (int i = 0; i < numbers.length; i++) {
            due.is("sheet " + k + " cell " + i, x.cell(k, i, lane), numbers[i]);
        }
    }

    private static void copy() {
        RootSigns x = new RootSigns();
        Due.write(x, 0, 1, 1, 2, 3, 4, 5);
        Due.write(x, 1, 1, 6, 7, 8);
        due.is("to another", x.copy(0, 1, 1, 0, 2), 2);
        same(x, 1, 1, 2, 3, 8);
        same(x, 0, 1, 1, 2, 3, 4, 5);
        due.is("the same, up", x.copy(0, 0, 0, 1, 4), 4);
        same(x, 0, 1, 1, 1, 2, 3, 4);
        due.is("the same, down", x.copy(0, 1, 0, 0, 4), 4);
        same(x, 0, 1, 1, 2, 3, 4, 4);
        due.is("all of them", x.copy(1, 0, 0, 2, 3), 3);
        same(x, 0, 1, 1, 2, 2, 3, 8);
        due.is("none, at the ends", x.copy(0, 5, 1, 3, 0), 0);
        due.is("no fault", x.fault(), 0);
        due.is("afterwards each has its own", x.put(1, 0, 9), 1);
        same(x, 0, 1, 1, 2, 2, 3, 8);
    }

    private static void refusalsOfCopy() {
        RootSigns x = new RootSigns();
        Due.write(x, 0, 1, 1, 2, 3);
        Due.write(x, 1, 2, 4, 5, 6);
        Due.write(x, 2, 1, 7, 8);
        due.is("sheet 4", x.copy(4, 0, 0, 0, 0), UNKNOWN);
        due.is("other 4", x.copy(3, 0, 4, 0, 0), UNKNOWN);
        due.is("sheet -1", x.copy(-1, 0, 0, 0, 0), UNKNOWN);
        due.is("other -1", x.copy(0, 0, -1, 0, 0), UNKNOWN);
        due.is("refused, no fault", x.fault(), 0);
        due.is("null", x.copy(3, -1, 0, -1, -1), NULL);
        due.is("other null", x.copy(0, -1, 3, -1, -1), NULL);
        due.is("null told", x.fault(), 1);
        due.is("cast ahead of index", x.copy(0, -1, 1, -1, -1), CAST);
        due.is("cast told", x.fault(), 2);
        int[][] wrong = {{-1, 0, 1}, {0, -1, 1}, {0, 0, -1}, {0, 0, 3}, {2, 0, 2}, {0, 2, 1}, {4, 0, 0}, {0, 3, 0},
            {1, 1, Integer.MAX_VALUE}, {Integer.MAX_VALUE, 0, 1}, {0, Integer.MIN_VALUE, 1}, {-1, 0, 0}, {0, -1, 0}};
        for (int[] w : wrong) {
            due.is("index " + w[0] + " " + w[1] + " " + w[2], x.copy(0, w[0], 2, w[1], w[2]), INDEX);
            due.is("index told", x.fault(), 3);
        }
        same(x, 0, 1, 1, 2, 3);
        same(x, 2, 1, 7, 8);
    }

    private static void fault() {
        RootSigns x = new RootSigns();
        due.is("ahead of any", x.fault(), 0);
        x.put(0, 0, 0);
        due.is("null", x.fault(), 1);
        // calls that name no FAULTS, answered or refused, leave it
        x.lose(0);
        x.lose(9);
        x.many(0);
        x.many(9);
        x.line(0);
        x.ofPolynomial(0, 0);
        x.value(0, 0);
        x.tune(0, 0, 0);
        x.tell(0);
        x.call(0);
        x.trace();
        x.called(0, 0);
        x.byName(0, 0);
        x.signAt(0, 0, 0);
        x.more(0, 0);
        x.place(0, 0);
        x.sharers(0);
        x.signIn(0, 0);
        x.ofRow(0, 0);
        x.reading(0, 0, 0);
        x.back(0);
        x.kinds(0);
        x.lows(0);
        x.odds(0, 0, 0);
        due.is("still null", x.fault(), 1);
        due.is("and again", x.fault(), 1);
        // each call that names FAULTS takes it back when it is refused
        String[] calls = {"polynomials", "day", "wish", "sheet", "put", "cell", "copy", "as"};
        for (int c = 0; c < calls.length; c++) {
            x.put(0, 0, 0);
            refused(x, c);
            due.is("refused " + calls[c], x.fault(), 0);
        }
        x.put(0, 0, 0);
        x.sheet(0, 0, 1);
        due.is("sheet came to none", x.fault(), 0);
        x.put(0, 1, 0);
        x.put(0, 0, 0);
        due.is("put came to none", x.fault(), 0);
        x.put(0, 1, 0);
        x.cell(0, 0, 0);
        due.is("cell came to none", x.fault(), 0);
        x.put(0, 1, 0);
        x.copy(0, 0, 0, 0, 1);
        due.is("copy came to none", x.fault(), 0);
        x.put(0, 1, 0);
        x.polynomials(0, 0, 0, 1);
        due.is("a text's fault is none of the machine's", x.fault(), 0);
    }

    private static void refused(RootSigns x, int c) {
        switch (c) {
            case 0: x.polynomials(0, 3, 0, 0); break;
            case 1: x.day(0, 0, 0, 0, 0); break;
            case 2: x.wish(0, 0, 0); break;
            case 3: x.sheet(0, 3, 0); break;
            case 4: x.put(4, 0, 0); break;
            case 5: x.cell(0, 0, 3); break;
            case 6: x.copy(0, 0, 4, 0, 0); break;
            default: x.as(0, 0); break;
        }
    }
}
