import java.util.Arrays;
import java.util.Random;

/** All promises: many runs of calls, the same ones on an object and on the model, answer by answer. */
public final class ModelTest {
    private static final Due due = new Due();
    private static final int RUNS = 400;
    private static final int CALLS = 512;

    private final RootSigns x = new RootSigns();
    private final Model model = new Model();
    private final Random random;
    private final String run;

    private ModelTest(int seed) {
        random = new Random(seed);
        run = "run " + seed + ", call ";
    }

    public static void main(String[] args) {
        for (int seed = 0; seed < RUNS; seed++) {
            new ModelTest(seed).go(CALLS);
        }
        due.end();
    }

    private int calls = 0;

    private void go(int most) {
        while (calls < most) {
            switch (random.nextInt(12)) {
                case 0: text(); break;
                case 1: case 2: whole(); break;
                case 3: readings(); break;
                case 4: row(); break;
                default: any(random.nextInt(Model.NAMES.length)); break;
            }
        }
    }

    private void same(int call, int... a) {
        calls++;
        long want = model.ask(call, a);
        due.is(run + calls + ": " + Model.NAMES[call] + Arrays.toString(a), ask(call, a), want);
    }

    private static int number(String name) {
        return Arrays.asList(Model.NAMES).indexOf(name);
    }

    /** Small numbers mostly, at and beyond the edges now and then. */
    private int argument() {
        switch (random.nextInt(10)) {
            case 0: return random.nextInt(25) - 3;
            case 1: return random.nextInt(50) == 0 ? random.nextInt() : random.nextInt(14);
            default: return random.nextInt(60) == 0 ? -1 : random.nextInt(4);
        }
    }

    private void any(int call) {
        int[] a = new int[Model.ARGUMENTS[call]];
        for (int k = 0; k < a.length; k++) {
            a[k] = argument();
        }
        same(call, a);
    }

    private int coefficient() {
        return random.nextInt(3) == 0 ? random.nextInt(19) - 9 : random.nextInt(7) - 3;
    }

    /** A TEXT of POLYNOMIALS that share roots often; now and then one with a fault. */
    private void text() {
        StringBuilder text = new StringBuilder("p");
        int count = 1 + random.nextInt(random.nextInt(10) == 0 ? 5 : 4);
        String last = "000";
        for (int p = 0; p < count; p++) {
            String own = random.nextInt(4) == 0 ? last : "" + coefficient() + coefficient() + coefficient();
            text.append(';').append("pms".charAt(random.nextInt(3))).append(own);
            last = own;
        }
        if (random.nextInt(4) == 0) {
            text.setCharAt(random.nextInt(text.length()), "pms;-0x9".charAt(random.nextInt(8)));
        }
        int n = text.length();
        int sheet = random.nextInt(4);
        int lane = random.nextInt(3);
        same(number("sheet"), sheet, lane, n);
        for (int i = 0; i < n; i++) {
            same(number("put"), sheet, i, text.charAt(i));
        }
        if (random.nextInt(4) == 0) {
            same(number("polynomials"), sheet, lane, random.nextInt(3), random.nextInt(n + 2));
        }
        same(number("polynomials"), sheet, lane, 0, n);
    }

    /** All that there is to ask of some POLYNOMIAL. */
    private void whole() {
        int p = random.nextInt(4);
        for (int i = 0; i < 3; i++) {
            same(number("called"), p, i);
            same(number("place"), p, i);
            same(number("signAt"), p, i, random.nextInt(4));
        }
        int sign = random.nextInt(3);
        same(number("odds"), p, sign, 0);
        same(number("odds"), p, sign, 1);
        same(number("line"), 2);
        same(number("ofRow"), random.nextInt(9), random.nextInt(2));
        same(number("ofRow"), random.nextInt(9), 10 + random.nextInt(4));
        same(number("signIn"), random.nextInt(17), p);
        same(number("sharers"), random.nextInt(8));
        same(number("more"), p, random.nextInt(4));
        same(number("tune"), p, random.nextInt(3), coefficient());
        same(number("kinds"), random.nextInt(4));
        same(number("ofPolynomial"), p, 20 + random.nextInt(3));
        same(number("value"), p, random.nextInt(2000003) - 1000001);
    }

    private void readings() {
        same(number("back"), random.nextInt(9));
        for (int n = random.nextInt(4); n > 0; n--) {
            same(number("reading"), random.nextInt(random.nextInt(8) == 0 ? 22 : 7), random.nextInt(4), random.nextInt(3));
        }
        for (int p = 0; p < 4; p++) {
            same(number("kinds"), p);
        }
        same(number("lows"), random.nextInt(4));
    }

    /** A row for a DAY or a WISH, and some of these. */
    private void row() {
        int sheet = random.nextInt(4);
        int lane = random.nextInt(3);
        int n = 3 * random.nextInt(5);
        same(number("sheet"), sheet, lane, n);
        for (int i = 0; i < n; i++) {
            int rare = random.nextInt(40);
            same(number("put"), sheet, i, rare == 0 ? random.nextInt() : rare == 1 ? -1 : i % 3 == 2 ? coefficient() : random.nextInt(3));
        }
        for (int asked = 0; asked < 6; asked++) {
            int what = random.nextInt(9);
            same(number("day"), sheet, lane, 3 * random.nextInt(2), random.nextInt(5), what < 5 ? what : what + 5);
            same(number("wish"), sheet, lane, random.nextInt(10));
        }
    }

    private long ask(int call, int[] a) {
        switch (Model.NAMES[call]) {
            case "polynomials": return x.polynomials(a[0], a[1], a[2], a[3]);
            case "ofPolynomial": return x.ofPolynomial(a[0], a[1]);
            case "value": return x.value(a[0], a[1]);
            case "tune": return x.tune(a[0], a[1], a[2]);
            case "day": return x.day(a[0], a[1], a[2], a[3], a[4]);
            case "called": return x.called(a[0], a[1]);
            case "byName": return x.byName(a[0], a[1]);
            case "signAt": return x.signAt(a[0], a[1], a[2]);
            case "more": return x.more(a[0], a[1]);
            case "place": return x.place(a[0], a[1]);
            case "sharers": return x.sharers(a[0]);
            case "line": return x.line(a[0]);
            case "signIn": return x.signIn(a[0], a[1]);
            case "ofRow": return x.ofRow(a[0], a[1]);
            case "wish": return x.wish(a[0], a[1], a[2]);
            case "reading": return x.reading(a[0], a[1], a[2]);
            case "back": return x.back(a[0]);
            case "kinds": return x.kinds(a[0]);
            case "lows": return x.lows(a[0]);
            case "odds": return x.odds(a[0], a[1], a[2]);
            case "sheet": return x.sheet(a[0], a[1], a[2]);
            case "lose": return x.lose(a[0]);
            case "put": return x.put(a[0], a[1], a[2]);
            case "cell": return x.cell(a[0], a[1], a[2]);
            case "copy": return x.copy(a[0], a[1], a[2], a[3], a[4]);
            case "tell": return x.tell(a[0]);
            case "call": return x.call(a[0]);
            case "as": return x.as(a[0], a[1]);
            case "trace": return x.trace();
            case "fault": return x.fault();
            default: return x.many(a[0]);
        }
    }
}
