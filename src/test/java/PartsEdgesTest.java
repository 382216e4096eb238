import java.util.Arrays;

/** The boundary cases of TELLING, CALLED, kinds, TRACE, fault() and many(): 'Terms' part 5, promises 27 to 32. */
public final class PartsEdgesTest {
    private static final int UNKNOWN = -1, OUTSIDE = -2;
    private static final int CAST = 2;
    private static final int[] FAR = {Integer.MIN_VALUE, Integer.MAX_VALUE};
    private static final Due due = new Due();

    public static void main(String[] args) {
        polynomialsThatAreNotThere();
        tellWithoutAndWithRoots();
        calledByEachNumber();
        traceWraps();
        asEachKind();
        asOutside();
        faultAheadOfAny();
        faultOfEachNumber();
        faultOfCallsThatNameNone();
        faultOfCallsThatCameToNone();
        faultOfRefusedCalls();
        howMany();
        upToThe512thCall();
        due.end();
    }

    private static Scene text(String text) {
        return Scene.of(due, text).text(text).faulty();
    }

    private static void polynomialsThatAreNotThere() {
        Scene s = text("p;p-101;s010").with("tell", 1).with("call", 1);
        Scene none = Scene.of(due, "no polynomials").faulty();
        for (int p : new int[] {Integer.MIN_VALUE, -1, 2, 3, 4, Integer.MAX_VALUE}) {
            for (Scene each : new Scene[] {s, none}) {
                each.is(UNKNOWN, "tell", p);
                each.is(UNKNOWN, "call", p);
                each.is(UNKNOWN, "as", p, 0);
                each.is(UNKNOWN, "as", p, 3);
            }
        }
        s.is(2, "tell", 0);
        s.is(102, "tell", 1);
        s.is(0, "call", 0);
        s.is(60, "call", 1);
        for (String name : new String[] {"tell", "call"}) {
            due.is(name + " leaves fault()", s.with(name, 0).asked("fault"), 4);
            none.is(UNKNOWN, name, 0);
        }
    }

    /** "PLAIN (1): how many ROOTS it has. MIRRORED (2): .. and 100. SHIFTED (3): .." with none, one and two ROOTS */
    private static void tellWithoutAndWithRoots() {
        String[] numbers = {"000", "101", "010", "121", "-101"};
        int[] roots = {0, 0, 1, 1, 2};
        for (int t = 0; t < numbers.length; t++) {
            text("p;p" + numbers[t]).is(roots[t], "tell", 0);
            text("p;m" + numbers[t]).is(100 + roots[t], "tell", 0);
            text("p;s" + numbers[t]).is(100 + 2 * roots[t], "tell", 0);
            text("p;p" + numbers[t]).with("tell", 0).is(1, "trace");
            text("p;m" + numbers[t]).with("tell", 0).is(2 * 31 + 1, "trace");
            text("p;s" + numbers[t]).with("tell", 0).is(((3 * 31 + 2) * 31 + 1) * 31 + 1, "trace");
        }
        Scene tuned = text("p;s-101").with("tune", 0, 0, 0);
        tuned.is(102, "tell", 0);
        tuned.with("tune", 0, 2, 0).is(100, "tell", 0);
    }

    /** "CALLED by a lent body (4): its number; SHIFTED ones have their own (5): 60." */
    private static void calledByEachNumber() {
        for (int p = 0; p < 4; p++) {
            Scene plain = text("p;p000;m000;p010;m-101");
            plain.is(p, "call", p);
            plain.with("call", p).is(4, "trace");
            Scene shifted = text("p;s000;s010;s-101;s101");
            shifted.is(60, "call", p);
            shifted.with("call", p).is(5, "trace");
        }
    }

    /** "TRACE (an int that wraps, 0 at first, becomes 31 times it and the number)" */
    private static void traceWraps() {
        RootSigns x = Due.of("p;s000");
        due.is("0 at first", x.trace(), 0);
        int[] traces = {5, 160, 4965, 153920, 4771525, 147917280, 290468389};
        long unwrapped = 0;
        boolean wrapped = false;
        for (int n = 0; n < 60; n++) {
            x.call(0);
            unwrapped = 31 * unwrapped + 5;
            wrapped |= unwrapped != (int) unwrapped;
            unwrapped = (int) unwrapped;
            due.is("trace behind " + (n + 1) + " calls", x.trace(), unwrapped);
            if (n < traces.length) {
                due.is("trace told by hand", x.trace(), traces[n]);
            }
        }
        due.isTrue("it wrapped", wrapped);
        due.isTrue("it was below 0", belowNought());
    }

    private static boolean belowNought() {
        RootSigns x = Due.of("p;s000");
        boolean below = false;
        for (int n = 0; n < 60; n++) {
            x.call(0);
            below |= x.trace() < 0;
        }
        return below;
    }

    /** "A POLYNOMIAL, taken as one of a kind: 1. .. CAST: it is none." */
    private static void asEachKind() {
        Scene s = text("p;p000;m-101;s999");
        for (int p = 0; p < 3; p++) {
            for (int kind = 0; kind < 3; kind++) {
                if (kind <= p) {
                    s.is(1, "as", p, kind);
                } else {
                    s.fails(CAST, "as", p, kind);
                }
            }
        }
    }

    private static void asOutside() {
        Scene s = text("p;p000;m-101;s999");
        for (int p = 0; p < 3; p++) {
            for (int kind : new int[] {Integer.MIN_VALUE, -1, 3, 4, Integer.MAX_VALUE}) {
                s.is(OUTSIDE, "as", p, kind);
            }
        }
    }

    /** "(0 ahead of any)" */
    private static void faultAheadOfAny() {
        Scene s = Scene.of(due, "new");
        s.is(0, "fault");
        s.with("line", 0).is(0, "fault");
        s.with("lose", 0).is(0, "fault");
        s.with("lose", 4).is(0, "fault");
        s.with("tell", 0).is(0, "fault");
    }

    /** "FAULTS are the machine's: 1 NULL, 2 CAST, 3 INDEX, 4 SIZE"; "fault() tells it", again and again. */
    private static void faultOfEachNumber() {
        Scene s = Scene.of(due, "faults").with("sheet", 1, 1, 2);
        s.with("put", 0, 0, 0).is(1, "fault");
        s.with("cell", 1, 0, 0).is(2, "fault");
        s.with("put", 1, 2, 0).is(3, "fault");
        s.with("sheet", 1, 1, -1).is(4, "fault");
        s.with("sheet", 1, 1, -1).with("fault").is(4, "fault");
        s.with("sheet", 1, 1, -1).with("put", 0, 0, 0).is(1, "fault");
        s.with("put", 0, 0, 0).with("cell", 1, 0, 0).with("put", 1, 2, 0).is(3, "fault");
    }

    /** "They change nothing (but fault(), of a call that names FAULTS)": these name none, refused or not. */
    private static void faultOfCallsThatNameNone() {
        Scene s = text("p;p-101;s010").with("reading", 0, 0, 2);
        int[] fine = {0, 0, 0, 0, 0};
        int[] wrong = {99, 99, 99, 99, 99};
        for (int c = 0; c < Calls.NAMES.length; c++) {
            String name = Calls.NAMES[c];
            if (Calls.namesFaults(name)) {
                continue;
            }
            int[] a = Arrays.copyOf(fine, Calls.ARGUMENTS[c]);
            int[] b = Arrays.copyOf(wrong, Calls.ARGUMENTS[c]);
            due.is(name + " leaves fault()", s.with(name, a).asked("fault"), 4);
            due.is(name + ", refused, leaves fault()", s.with(name, b).asked("fault"), 4);
        }
    }

    /** "0: it came to none" */
    private static void faultOfCallsThatCameToNone() {
        Scene s = text("p;p-101;s010").row(1, 0, Due.codes("p;p000")).row(2, 2, 0, 0, 0, 7, 0, 0).faulty();
        s.is(4, "fault");
        Object[][] calls = {{"polynomials", new int[] {1, 0, 0, 6}}, {"polynomials", new int[] {1, 0, 0, 5}},
            {"day", new int[] {2, 2, 0, 1, 0}}, {"day", new int[] {2, 2, 0, 2, 0}}, {"wish", new int[] {2, 2, 0}},
            {"sheet", new int[] {0, 0, 0}}, {"put", new int[] {1, 0, 0}}, {"cell", new int[] {1, 0, 0}},
            {"copy", new int[] {1, 0, 1, 0, 0}}, {"as", new int[] {1, 2}}};
        for (Object[] call : calls) {
            s.with((String) call[0], (int[]) call[1]).is(0, "fault");
        }
    }

    /** "or was refused" */
    private static void faultOfRefusedCalls() {
        Scene s = text("p;p-101;s010").row(2, 2, 0, 9, 0).faulty();
        Object[][] calls = {{"polynomials", new int[] {4, 0, 0, 0}}, {"polynomials", new int[] {2, 3, 0, 0}},
            {"day", new int[] {4, 0, 0, 0, 0}}, {"day", new int[] {2, 2, 0, 21, 0}}, {"day", new int[] {2, 2, 0, 1, 0}},
            {"wish", new int[] {4, 0, 0}}, {"wish", new int[] {2, 3, 0}}, {"wish", new int[] {2, 2, 1}},
            {"sheet", new int[] {4, 0, 0}}, {"sheet", new int[] {0, 3, 0}}, {"sheet", new int[] {0, 0, 61}}, {"put", new int[] {4, 0, 0}},
            {"cell", new int[] {4, 0, 0}}, {"cell", new int[] {2, 0, 3}}, {"copy", new int[] {4, 0, 0, 0, 0}},
            {"copy", new int[] {0, 0, 4, 0, 0}}, {"as", new int[] {2, 0}}, {"as", new int[] {0, 3}}};
        for (Object[] call : calls) {
            s.with((String) call[0], (int[]) call[1]).is(0, "fault");
        }
        Scene none = Scene.of(due, "no polynomials").faulty();
        none.with("day", 0, 0, 0, 0, 0).is(0, "fault");
        none.with("wish", 0, 0, 0).is(0, "fault");
    }

    /** "How many: 0 .. 3 (0 all without POLYNOMIALS). OUTSIDE." */
    private static void howMany() {
        Scene none = Scene.of(due, "no polynomials").faulty();
        Scene most = text("p;p-901;p-801;m-701;s-601");
        Scene noughts = text("p;p000;m000;s000;p-0-0-0");
        int[] greatest = {4, 8, 0, 0};
        int[] zeroes = {4, 0, 4, 0};
        for (int what = 0; what < 4; what++) {
            none.is(0, "many", what);
            most.is(greatest[what], "many", what);
            noughts.is(zeroes[what], "many", what);
        }
        for (int what : new int[] {Integer.MIN_VALUE, -1, 4, 5, Integer.MAX_VALUE}) {
            none.is(OUTSIDE, "many", what);
            most.is(OUTSIDE, "many", what);
        }
        // one that is 0 for each x, wherever it stands among others
        for (int p = 0; p < 4; p++) {
            for (String others : new String[] {";p100", ";m010", ";s001", ";p-9-9-9"}) {
                StringBuilder text = new StringBuilder("p");
                for (int q = 0; q < 4; q++) {
                    text.append(q == p ? ";p000" : others);
                }
                text(text.toString()).is(1, "many", 2);
            }
        }
        // "(each POLYNOMIAL's own)": ROOTS that are shared count for each
        text("p;p-101;p-101;p-101;p-101").is(8, "many", 1);
        text("p;p-101;p-101;p-101;p-101").is(2, "line", 0);
    }

    /** "An object is used for at most 512 calls": the last of them is answered as the first. */
    private static void upToThe512thCall() {
        RootSigns x = new RootSigns();
        for (int call = 1; call < 512; call++) {
            due.is("sheet at call " + call, x.sheet(call % 4, call % 3, 60), 1);
        }
        due.is("call 512", x.cell(3, 59, 511 % 3), 0);
        RootSigns y = Due.of("p;s-501;m-4-21;p-1-41;p4-61");
        int made = 30;
        int trace = 0;
        while (made < 510) {
            y.tell(made % 4);
            int[][] bodies = {{3, 2, 1, 1}, {2, 1}, {1}, {1}};
            for (int body : bodies[made % 4]) {
                trace = 31 * trace + body;
            }
            made++;
        }
        due.is("call 511", y.lows(3), (1 << 19) - 1);
        due.is("call 512", y.trace(), trace);
        for (int what : FAR) {
            due.is("far off", new RootSigns().many(what), OUTSIDE);
        }
    }
}
