import java.util.Arrays;

/**
 * "For any arguments in any state": in each of some scenes each call with all the numbers at and beside its bounds, in all
 * ways, answered as the model does; behind each call fault(), TRACE and the counts are the model's, too.
 */
public final class SweepTest {
    private static final Due due = new Due();
    private static final int LEAST = Integer.MIN_VALUE, MOST = Integer.MAX_VALUE;
    private static final int MOST_CALLS = 512;
    private static final int[] ANY = {LEAST, -1000001, -1000000, -10, -9, -1, 0, 1, 2, 3, 4, 5, 8, 9, 10, 11, 12, 13, 14, 16, 17, 20, 21,
        22, 23, 60, 61, 1000000, 1000001, MOST};
    private static final int[] SOME = {LEAST, -10, -9, -1, 0, 1, 2, 3, 4, 9, 10, 20, 21, 60, 61, MOST};
    private static final int[] SHEETS = {-1, 0, 1, 2, 3, 4};
    private static final int[] LANES = {-1, 0, 1, 2, 3};
    private static final int[] CELLS = {LEAST, -1, 0, 1, 2, 3, 4, 6, 7, 9, 59, 60, 61, MOST};
    private static final int[] FEW_CELLS = {LEAST, -1, 0, 1, 2, 3, 4, 60, MOST};
    private static final int[] THREES = {-1, 0, 1, 2, 3, 20, 21};
    private static final int[] WHATS = {-1, 0, 1, 2, 3, 4, 5, 9, 10, 11, 12, 13, 14};

    private final Scene scene;
    private final String title;
    private Calls.Asked x;
    private Calls.Asked model;
    private int calls;

    private SweepTest(String title, Scene scene) {
        this.title = title;
        this.scene = scene;
    }

    public static void main(String[] args) {
        Scene start = Scene.of(due, "");
        new SweepTest("new", start).sweep();
        new SweepTest("sheets alone", sheets(start)).sweep();
        new SweepTest("no roots", sheets(start).with("polynomials", 1, 1, 0, 6)).sweep();
        new SweepTest("two roots", read(sheets(start).text("p;s-101"), 3)).sweep();
        new SweepTest("some roots", read(sheets(start).text("p;p-101;m001;s-310").with("tell", 2), 5)).sweep();
        new SweepTest("eight roots", read(sheets(start).text("p;p-501;p-4-21;p-1-41;p4-61").with("tell", 0), 8)).sweep();
        due.end();
    }

    /** SHEET 0: acts and wishes as bytes, 1 a TEXT as shorts, 2 a full row of ints, 3 nothing. */
    private static Scene sheets(Scene from) {
        return from.row(0, 0, 0, 0, 2, 1, 1, -9, 3, 2, 1).row(1, 1, Due.codes("p;p000")).row(2, 2, 0, 0, 1).with("sheet", 2, 2, 60)
            .with("put", 2, 59, 10).with("put", 2, 0, 7).faulty();
    }

    private static Scene read(Scene from, int times) {
        Scene s = from;
        for (int r = 0; r < times; r++) {
            s = r % 2 == 0 ? s.with("reading", 0, 0, 2) : s.with("reading", 1, 0, (int) s.asked("signIn", 1, 0));
        }
        return s;
    }

    private void sweep() {
        for (int c = 0; c < Calls.NAMES.length; c++) {
            int[][] pools = pools(Calls.NAMES[c], Calls.ARGUMENTS[c]);
            x = null;
            each(Calls.NAMES[c], pools, 0, new int[pools.length]);
        }
    }

    private static int[][] pools(String name, int arguments) {
        switch (name) {
            case "polynomials": return new int[][] {SHEETS, LANES, CELLS, CELLS};
            case "day": return new int[][] {SHEETS, LANES, CELLS, THREES, WHATS};
            case "copy": return new int[][] {SHEETS, FEW_CELLS, SHEETS, FEW_CELLS, FEW_CELLS};
            case "wish": return new int[][] {SHEETS, LANES, CELLS};
            case "cell": return new int[][] {SHEETS, CELLS, LANES};
            default: {
                int[][] pools = new int[arguments][];
                Arrays.fill(pools, arguments < 3 ? ANY : SOME);
                return pools;
            }
        }
    }

    private void each(String name, int[][] pools, int at, int[] a) {
        if (at == pools.length) {
            same(name, a.clone());
            return;
        }
        for (int value : pools[at]) {
            a[at] = value;
            each(name, pools, at + 1, a);
        }
    }

    /** Calls that only look go on with the same two, the others begin with new ones each time. */
    private void same(String name, int[] a) {
        if (x == null || !Calls.onlyLooks(name) || calls + 8 > MOST_CALLS - 130) {
            x = scene.make(() -> Calls.of(new RootSigns()));
            model = scene.make(Model::new);
            calls = 0;
        }
        compare(name, name, a);
        compare(name, "fault");
        compare(name, "trace");
        for (int what = 0; what < 4; what++) {
            compare(name, "many", what);
        }
    }

    private void compare(String behind, String name, int... a) {
        calls++;
        long got = x.ask(name, a);
        long want = model.ask(name, a);
        due.is(got == want ? "" : title + ", " + behind + ": " + Calls.told(name, a), got, want);
    }
}
