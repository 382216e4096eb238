/** Promises 27 to 32: tell, call, as, trace, fault, many. */
public final class PartsTest {
    private static final int UNKNOWN = -1, OUTSIDE = -2, CAST = -12;
    private static final Due due = new Due();

    public static void main(String[] args) {
        tell();
        call();
        traceWraps();
        as();
        many();
        due.end();
    }

    private static int left(int trace, int... bodies) {
        int now = trace;
        for (int body : bodies) {
            now = 31 * now + body;
        }
        return now;
    }

    private static void tell() {
        RootSigns x = Due.of("p;p-201;m-201;s-201;s000");
        due.is("plain", x.tell(0), 2);
        int trace = left(0, 1);
        due.is("plain, trace", x.trace(), trace);
        due.is("mirrored", x.tell(1), 102);
        trace = left(trace, 2, 1);
        due.is("mirrored, trace", x.trace(), trace);
        due.is("shifted", x.tell(2), 104);
        trace = left(trace, 3, 2, 1, 1);
        due.is("shifted, trace", x.trace(), trace);
        due.is("shifted without roots", x.tell(3), 100);
        trace = left(trace, 3, 2, 1, 1);
        due.is("p 4", x.tell(4), UNKNOWN);
        due.is("p -1", x.tell(-1), UNKNOWN);
        due.is("a refusal leaves nothing", x.trace(), trace);
        x.tune(1, 2, 0);
        due.is("as it is now", x.tell(1), 100);
    }

    private static void call() {
        RootSigns x = Due.of("p;s000;p000;m000;s111");
        due.is("shifted", x.call(0), 60);
        due.is("shifted, trace", x.trace(), 5);
        due.is("plain", x.call(1), 1);
        due.is("plain, trace", x.trace(), 159);
        due.is("mirrored", x.call(2), 2);
        due.is("mirrored, trace", x.trace(), 4933);
        due.is("shifted again", x.call(3), 60);
        due.is("shifted again, trace", x.trace(), 152928);
        due.is("p 4", x.call(4), UNKNOWN);
        due.is("p -1", x.call(-1), UNKNOWN);
        due.is("a refusal leaves nothing", x.trace(), 152928);
    }

    private static void traceWraps() {
        RootSigns x = Due.of("p;s121");
        int trace = 0;
        for (int n = 0; n < 50; n++) {
            x.tell(0);
            x.call(0);
            trace = left(trace, 3, 2, 1, 1, 5);
            due.is("trace " + n, x.trace(), trace);
        }
        due.is("trace is only read", x.trace(), trace);
        Due.take(x, "p;p000");
        due.is("a new text leaves it", x.trace(), trace);
    }

    private static void as() {
        RootSigns x = Due.of("p;p000;m000;s000");
        for (int p = 0; p < 3; p++) {
            for (int kind = 0; kind < 3; kind++) {
                due.is("as " + p + " " + kind, x.as(p, kind), kind <= p ? 1 : CAST);
                due.is("fault of it", x.fault(), kind <= p ? 0 : 2);
            }
        }
        x.as(0, 2);
        due.is("kind 3", x.as(0, 3), OUTSIDE);
        due.is("outside is no fault", x.fault(), 0);
        x.as(0, 2);
        due.is("kind -1", x.as(0, -1), OUTSIDE);
        due.is("outside is no fault, below", x.fault(), 0);
        x.as(0, 2);
        due.is("p 3", x.as(3, 3), UNKNOWN);
        due.is("unknown is no fault", x.fault(), 0);
        due.is("p -1", x.as(-1, 0), UNKNOWN);
    }

    private static void many() {
        RootSigns x = Due.of("p;p-201;p121;s000;m-000");
        due.is("polynomials", x.many(0), 4);
        due.is("roots", x.many(1), 3);
        due.is("0 for each x", x.many(2), 2);
        due.is("readings", x.many(3), 0);
        x.reading(0, 0, 0);
        due.is("one reading", x.many(3), 1);
        due.is("what 4", x.many(4), OUTSIDE);
        due.is("what -1", x.many(-1), OUTSIDE);
        // the same numbers as ROOTS of each count for each
        RootSigns y = Due.of("p;p-101;p10-1;m-101");
        due.is("each one's own", y.many(1), 6);
        due.is("unlike", y.line(0), 2);
        // 7 is not 0, nor is what is 0 only when told: shifted 1 1 0 IS 0 - x
        RootSigns z = Due.of("p;p700;s110;p070;p007");
        due.is("none is 0 for each x", z.many(2), 0);
        z.tune(0, 0, 0);
        due.is("one is", z.many(2), 1);
        due.is("outside on a new object", new RootSigns().many(4), OUTSIDE);
    }
}
