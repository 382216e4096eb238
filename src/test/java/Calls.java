import java.util.Arrays;
import java.util.List;

/** The calls of the document's face by their names, so that tests can tell them in tables. */
final class Calls {
    private Calls() { }

    /** Whatever can be asked as a RootSigns can: an object of it, or the model. */
    interface Asked {
        long ask(String name, int... a);
    }

    /** The calls in the order of the document's face. */
    static final String[] NAMES = {"polynomials", "ofPolynomial", "value", "tune", "day", "called", "byName", "signAt", "more",
        "place", "sharers", "line", "signIn", "ofRow", "wish", "reading", "back", "kinds", "lows", "odds", "sheet", "lose", "put",
        "cell", "copy", "tell", "call", "as", "trace", "fault", "many"};
    static final int[] ARGUMENTS = {4, 2, 2, 3, 5, 2, 2, 3, 2, 2, 1, 1, 2, 2, 3, 3, 1, 1, 1, 3, 3, 1, 3, 3, 5, 1, 1, 2, 0, 0, 1};

    /** Those whose line in the document names FAULTS. */
    private static final List<String> WITH_FAULTS = List.of("polynomials", "day", "wish", "sheet", "put", "cell", "copy", "as");
    private static final List<String> LONG = List.of("value", "odds", "cell");
    /** Those that change something when they are not refused. */
    private static final List<String> CHANGING = List.of("polynomials", "tune", "reading", "back", "sheet", "lose", "put", "copy",
        "tell", "call");

    static boolean namesFaults(String name) {
        return WITH_FAULTS.contains(name);
    }

    static boolean answersLong(String name) {
        return LONG.contains(name);
    }

    static boolean onlyLooks(String name) {
        return !CHANGING.contains(name);
    }

    static String told(String name, int... a) {
        return name + Arrays.toString(a);
    }

    static Asked of(RootSigns x) {
        return (name, a) -> ask(x, name, a);
    }

    private static long ask(RootSigns x, String name, int[] a) {
        switch (name) {
            case "polynomials": return x.polynomials(a[0], a[1], a[2], a[3]);
            case "ofPolynomial": return x.ofPolynomial(a[0], a[1]);
            case "value": return x.value(a[0], a[1]);
            case "tune": return x.tune(a[0], a[1], a[2]);
            case "day": return x.day(a[0], a[1], a[2], a[3], a[4]);
            case "called": return x.called(a[0], a[1]);
            case "byName": return x.byName(a[0], a[1]);
            case "signAt": return x.signAt(a[0], a[1], a[2]);
            case "more": return x.more(a[0], a[1]);
            case "place": return x.place(a[0], a[1]);
            case "sharers": return x.sharers(a[0]);
            case "line": return x.line(a[0]);
            case "signIn": return x.signIn(a[0], a[1]);
            case "ofRow": return x.ofRow(a[0], a[1]);
            case "wish": return x.wish(a[0], a[1], a[2]);
            case "reading": return x.reading(a[0], a[1], a[2]);
            case "back": return x.back(a[0]);
            case "kinds": return x.kinds(a[0]);
            case "lows": return x.lows(a[0]);
            case "odds": return x.odds(a[0], a[1], a[2]);
            case "sheet": return x.sheet(a[0], a[1], a[2]);
            case "lose": return x.lose(a[0]);
            case "put": return x.put(a[0], a[1], a[2]);
            case "cell": return x.cell(a[0], a[1], a[2]);
            case "copy": return x.copy(a[0], a[1], a[2], a[3], a[4]);
            case "tell": return x.tell(a[0]);
            case "call": return x.call(a[0]);
            case "as": return x.as(a[0], a[1]);
            case "trace": return x.trace();
            case "fault": return x.fault();
            case "many": return x.many(a[0]);
            default: throw new IllegalArgumentException(name);
        }
    }
}
