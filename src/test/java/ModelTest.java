import java.util.Random;

/** All promises: many runs of calls, the same ones on an object and on the model, answer by answer. */
public final class ModelTest {
    private static final Due due = new Due();
    private static final int RUNS = 400;
    private static final int CALLS = 512;

    private final Calls.Asked x = Calls.of(new RootSigns());
    private final Calls.Asked model = new Model();
    private final Random random;
    private final String run;

    private ModelTest(int seed) {
        random = new Random(seed);
        run = "run " + seed + ", call ";
    }

    public static void main(String[] args) {
        for (int seed = 0; seed < RUNS; seed++) {
            new ModelTest(seed).go();
        }
        due.end();
    }

    private int calls = 0;

    private void go() {
        while (calls < CALLS) {
            switch (random.nextInt(12)) {
                case 0: text(); break;
                case 1: case 2: whole(); break;
                case 3: readings(); break;
                case 4: row(); break;
                default: any(random.nextInt(Calls.NAMES.length)); break;
            }
        }
    }

    /** What an object answers behind its 512th call is free. */
    private void same(String name, int... a) {
        if (calls >= CALLS) {
            return;
        }
        calls++;
        long want = model.ask(name, a);
        due.is(run + calls + ": " + Calls.told(name, a), x.ask(name, a), want);
    }

    /** Small numbers mostly, at and beyond the edges now and then. */
    private int argument() {
        switch (random.nextInt(10)) {
            case 0: return random.nextInt(25) - 3;
            case 1: return random.nextInt(50) == 0 ? random.nextInt() : random.nextInt(14);
            default: return random.nextInt(60) == 0 ? -1 : random.nextInt(4);
        }
    }

    private void any(int call) {
        int[] a = new int[Calls.ARGUMENTS[call]];
        for (int k = 0; k < a.length; k++) {
            a[k] = argument();
        }
        same(Calls.NAMES[call], a);
    }

    private int coefficient() {
        return random.nextInt(3) == 0 ? random.nextInt(19) - 9 : random.nextInt(7) - 3;
    }

    /** A TEXT of POLYNOMIALS that share roots often; now and then one with a fault. */
    private void text() {
        StringBuilder text = new StringBuilder("p");
        int count = 1 + random.nextInt(random.nextInt(10) == 0 ? 5 : 4);
        String last = "000";
        for (int p = 0; p < count; p++) {
            String own = random.nextInt(4) == 0 ? last : "" + coefficient() + coefficient() + coefficient();
            text.append(';').append("pms".charAt(random.nextInt(3))).append(own);
            last = own;
        }
        if (random.nextInt(4) == 0) {
            text.setCharAt(random.nextInt(text.length()), "pms;-0x9".charAt(random.nextInt(8)));
        }
        int n = text.length();
        int sheet = random.nextInt(4);
        int lane = random.nextInt(3);
        same("sheet", sheet, lane, n);
        for (int i = 0; i < n; i++) {
            same("put", sheet, i, text.charAt(i));
        }
        if (random.nextInt(4) == 0) {
            same("polynomials", sheet, lane, random.nextInt(3), random.nextInt(n + 2));
        }
        same("polynomials", sheet, lane, 0, n);
    }

    /** All that there is to ask of some POLYNOMIAL. */
    private void whole() {
        int p = random.nextInt(4);
        for (int i = 0; i < 3; i++) {
            same("called", p, i);
            same("place", p, i);
            same("signAt", p, i, random.nextInt(4));
        }
        int sign = random.nextInt(3);
        same("odds", p, sign, 0);
        same("odds", p, sign, 1);
        same("line", 2);
        same("ofRow", random.nextInt(9), random.nextInt(2));
        same("ofRow", random.nextInt(9), 10 + random.nextInt(4));
        same("signIn", random.nextInt(17), p);
        same("sharers", random.nextInt(8));
        same("more", p, random.nextInt(4));
        same("tune", p, random.nextInt(3), coefficient());
        same("kinds", random.nextInt(4));
        same("ofPolynomial", p, 20 + random.nextInt(3));
        same("value", p, random.nextInt(2000003) - 1000001);
    }

    private void readings() {
        same("back", random.nextInt(9));
        for (int n = random.nextInt(4); n > 0; n--) {
            same("reading", random.nextInt(random.nextInt(8) == 0 ? 22 : 7), random.nextInt(4), random.nextInt(3));
        }
        for (int p = 0; p < 4; p++) {
            same("kinds", p);
        }
        same("lows", random.nextInt(4));
    }

    /** A row for a DAY or a WISH, and some of these. */
    private void row() {
        int sheet = random.nextInt(4);
        int lane = random.nextInt(3);
        int n = 3 * random.nextInt(5);
        same("sheet", sheet, lane, n);
        for (int i = 0; i < n; i++) {
            int rare = random.nextInt(40);
            same("put", sheet, i, rare == 0 ? random.nextInt() : rare == 1 ? -1 : i % 3 == 2 ? coefficient() : random.nextInt(3));
        }
        for (int asked = 0; asked < 6; asked++) {
            int what = random.nextInt(9);
            same("day", sheet, lane, 3 * random.nextInt(2), random.nextInt(5), what < 5 ? what : what + 5);
            same("wish", sheet, lane, random.nextInt(10));
        }
    }
}
