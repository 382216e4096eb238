import java.util.ArrayList;
import java.util.Arrays;
import java.util.List;
import java.util.function.Supplier;

/**
 * A run of calls on a new object, which can be made again and again: so that all there is can be looked at, with and
 * without one call more, and no object is asked more than 512 times.
 */
final class Scene {
    private static final long LOST = Long.MIN_VALUE;
    private static final int MOST_CALLS = 512;

    private record Step(String name, int[] a) { }

    private final Due due;
    private final String title;
    private final List<Step> steps;
    private long[] seen;

    private Scene(Due due, String title, List<Step> steps) {
        this.due = due;
        this.title = title;
        this.steps = steps;
    }

    /** A new object. */
    static Scene of(Due due, String title) {
        return new Scene(due, title, List.of());
    }

    Scene called(String otherTitle) {
        return new Scene(due, otherTitle, steps);
    }

    /** One call more. */
    Scene with(String name, int... a) {
        List<Step> more = new ArrayList<>(steps);
        more.add(new Step(name, a));
        return new Scene(due, title, more);
    }

    /** A SHEET has a row of these numbers. */
    Scene row(int sheet, int lane, int... numbers) {
        Scene s = with("sheet", sheet, lane, numbers.length);
        for (int i = 0; i < numbers.length; i++) {
            s = numbers[i] == 0 ? s : s.with("put", sheet, i, numbers[i]);
        }
        return s;
    }

    /** A TEXT is taken by way of SHEET 3, which has nothing afterwards. */
    Scene text(String text) {
        return row(3, 0, Due.codes(text)).with("polynomials", 3, 0, 0, text.length()).with("lose", 3);
    }

    /** The latest FAULT is SIZE, so that a call that takes it back is told from one that leaves it. */
    Scene faulty() {
        return with("sheet", 0, 0, -1);
    }

    Calls.Asked make(Supplier<Calls.Asked> fresh) {
        Calls.Asked x = fresh.get();
        for (Step s : steps) {
            x.ask(s.name, s.a);
        }
        return x;
    }

    long asked(String name, int... a) {
        return make(() -> Calls.of(new RootSigns())).ask(name, a);
    }

    /**
     * What one call more answers; and if it only looks, or answers a refusal, a FAULT or a FIRST FAULT, that it changes
     * nothing but fault(), which tells what it should.
     */
    void is(long want, String name, int... a) {
        due.is(title + ": " + Calls.told(name, a), asked(name, a), want);
        if (Calls.onlyLooks(name) || want < 0) {
            boolean fails = want <= -11 && want >= -14;
            changesNothing(fails ? (int) (-10 - want) : 0, name, a);
        }
    }

    /** The same, of a call that comes to a FAULT, told by its number. */
    void fails(int fault, String name, int... a) {
        due.is(title + ": " + Calls.told(name, a), asked(name, a), Calls.answersLong(name) ? LOST : -10 - fault);
        changesNothing(fault, name, a);
    }

    private void changesNothing(int fault, String name, int... a) {
        long[] now = seen();
        long[] then = with(name, a).seen();
        int latest = Calls.namesFaults(name) ? fault : (int) now[0];
        due.is(title + ": fault() behind " + Calls.told(name, a), then[0], latest);
        int at = firstUnlike(now, then);
        due.is(title + ": unchanged by " + Calls.told(name, a) + (at < 0 ? "" : ": " + LABELS[at]), at, -1);
    }

    /** That all there is to see is the same as in another scene, but for fault(). */
    void isLike(String why, Scene other) {
        int at = firstUnlike(seen(), other.seen());
        due.is(title + ": " + why + (at < 0 ? "" : ": " + LABELS[at]), at, -1);
    }

    private static int firstUnlike(long[] one, long[] other) {
        int at = Arrays.mismatch(Arrays.copyOfRange(one, 1, one.length), Arrays.copyOfRange(other, 1, other.length));
        return at < 0 ? -1 : at + 1;
    }

    private long[] seen() {
        if (seen == null) {
            seen = seen(() -> Calls.of(new RootSigns()));
        }
        return seen;
    }

    /** All that can be asked, fault() first. */
    long[] seen(Supplier<Calls.Asked> fresh) {
        if (steps.size() + LONGEST_LOOK > MOST_CALLS) {
            throw new IllegalStateException(title + " is too long a run to be looked at: " + steps.size());
        }
        return looked(() -> make(fresh));
    }

    static final String[] LABELS = labels();
    private static final int LONGEST_LOOK = longestLook();

    private static String[] labels() {
        List<String> labels = new ArrayList<>();
        looked(() -> (name, a) -> labels.add(Calls.told(name, a)) ? 1 : 0);
        return labels.toArray(new String[0]);
    }

    private static int longestLook() {
        int[] most = {0};
        looked(() -> {
            int[] calls = {0};
            return (name, a) -> {
                calls[0]++;
                most[0] = Math.max(most[0], calls[0]);
                return 0;
            };
        });
        return most[0];
    }

    private static long[] looked(Supplier<Calls.Asked> made) {
        List<Long> all = new ArrayList<>();
        lookAtPolynomials(made.get(), all);
        lookAtLine(made.get(), all);
        lookAtReadings(made.get(), all);
        for (int k = 0; k < 4; k++) {
            lookAtSheet(made.get(), k, all);
        }
        long[] row = new long[all.size()];
        for (int i = 0; i < row.length; i++) {
            row[i] = all.get(i);
        }
        return row;
    }

    private static void lookAtPolynomials(Calls.Asked x, List<Long> all) {
        all.add(x.ask("fault"));
        all.add(x.ask("trace"));
        for (int what = 0; what < 4; what++) {
            all.add(x.ask("many", what));
        }
        for (int p = 0; p < 4; p++) {
            for (int what : new int[] {0, 1, 10, 11, 12, 20, 21, 22}) {
                all.add(x.ask("ofPolynomial", p, what));
            }
            for (int i = 0; i < 2; i++) {
                all.add(x.ask("called", p, i));
                all.add(x.ask("place", p, i));
                for (int q = 0; q < 4; q++) {
                    all.add(x.ask("signAt", p, i, q));
                }
            }
            for (int q = 0; q < 4; q++) {
                all.add(x.ask("more", p, q));
            }
            all.add(x.ask("value", p, -3));
            all.add(x.ask("odds", p, 2, 0));
            all.add(x.ask("odds", p, 2, 1));
        }
    }

    private static void lookAtLine(Calls.Asked x, List<Long> all) {
        for (int what = 0; what < 3; what++) {
            all.add(x.ask("line", what));
        }
        for (int k = 0; k < 8; k++) {
            all.add(x.ask("sharers", k));
        }
        for (int k = 0; k < 17; k++) {
            all.add(x.ask("ofRow", k, 0));
            all.add(x.ask("ofRow", k, 1));
            for (int p = 0; p < 4; p++) {
                all.add(x.ask("signIn", k, p));
                all.add(x.ask("ofRow", k, 10 + p));
            }
        }
    }

    /** What READINGS say, then without the last, without the last two, and so on. */
    private static void lookAtReadings(Calls.Asked x, List<Long> all) {
        for (int left = 8; left >= 0; left--) {
            for (int p = 0; p < 4; p++) {
                all.add(x.ask("kinds", p));
                all.add(x.ask("lows", p));
            }
            all.add(x.ask("back", 1));
        }
    }

    private static void lookAtSheet(Calls.Asked x, int k, List<Long> all) {
        for (int lane = 0; lane < 3; lane++) {
            all.add(x.ask("cell", k, 0, lane));
            all.add(x.ask("fault"));
            for (int i = 1; i <= 60; i++) {
                all.add(x.ask("cell", k, i, lane));
            }
        }
    }
}
