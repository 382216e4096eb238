import java.math.BigDecimal;
import java.math.MathContext;
import java.util.ArrayList;
import java.util.HashMap;
import java.util.LinkedHashMap;
import java.util.List;
import java.util.Map;
import java.util.regex.Matcher;
import java.util.regex.Pattern;

/**
 * The document told a second time, by other means: roots are decimal fractions of 60 digits, far finer than
 * roots of such small polynomials can lie apart; signs between roots are looked up half way.
 */
final class Model implements Calls.Asked {
    private static final int UNKNOWN = -1, OUTSIDE = -2, STATE = -3, FULL = -4, NONE = -9;
    private static final long LOST = Long.MIN_VALUE;
    private static final MathContext FINE = new MathContext(60);
    private static final BigDecimal NEAR = new BigDecimal("1e-35");
    private static final Pattern TEXT = Pattern.compile("p(;[pms](-?[0-9]){3}){1,4}");

    /** A FAULT or a refusal on its way out of a call. */
    private static final class Stop extends RuntimeException {
        private static final long serialVersionUID = 1L;
        final int answer;

        Stop(int answer) {
            super(null, null, false, false);
            this.answer = answer;
        }
    }

    private static final class Poly {
        final int kind;
        final int[] told;

        Poly(int kind, int... told) {
            this.kind = kind;
            this.told = told;
        }

        Poly with(int k, int v) {
            int[] other = told.clone();
            other[k] = v;
            return new Poly(kind, other);
        }

        Poly of(int otherKind) {
            return new Poly(otherKind, told);
        }

        private long plain(long x) {
            return told[0] + told[1] * x + told[2] * x * x;
        }

        private long mirrored(long x) {
            return plain(-x);
        }

        long at(long x) {
            return kind == 0 ? plain(x) : kind == 1 ? mirrored(x) : mirrored(x + 1);
        }

        /** What it IS, found from three values. */
        List<Integer> exact() {
            long third = (at(1) + at(-1)) / 2 - at(0);
            return List.of((int) at(0), (int) ((at(1) - at(-1)) / 2), (int) third);
        }
    }

    private static final Map<List<Integer>, List<BigDecimal>> SOLVED = new HashMap<>();

    private static List<BigDecimal> solve(List<Integer> exact) {
        return SOLVED.computeIfAbsent(exact, e -> {
            BigDecimal a = BigDecimal.valueOf(e.get(0));
            BigDecimal b = BigDecimal.valueOf(e.get(1));
            BigDecimal c = BigDecimal.valueOf(e.get(2));
            List<BigDecimal> roots = new ArrayList<>();
            if (c.signum() == 0) {
                if (b.signum() != 0) {
                    roots.add(a.negate().divide(b, FINE));
                }
                return roots;
            }
            BigDecimal d = b.multiply(b).subtract(a.multiply(c).multiply(BigDecimal.valueOf(4)));
            if (d.signum() < 0) {
                return roots;
            }
            BigDecimal twice = c.add(c);
            for (int side = -1; side <= 1; side += 2) {
                BigDecimal s = d.sqrt(FINE).multiply(BigDecimal.valueOf(side));
                addUnlike(roots, s.subtract(b).divide(twice, FINE));
            }
            return roots;
        });
    }

    private static void addUnlike(List<BigDecimal> roots, BigDecimal x) {
        for (BigDecimal r : roots) {
            if (r.subtract(x).abs().compareTo(NEAR) < 0) {
                return;
            }
        }
        roots.add(x);
        roots.sort(null);
    }

    private static int sign(BigDecimal v) {
        return v.abs().compareTo(NEAR) < 0 ? 1 : v.signum() + 1;
    }

    private static int sign(List<Integer> e, BigDecimal x) {
        BigDecimal v = BigDecimal.valueOf(e.get(2)).multiply(x).add(BigDecimal.valueOf(e.get(1))).multiply(x)
            .add(BigDecimal.valueOf(e.get(0)));
        return sign(v);
    }

    private static List<Integer> derivative(List<Integer> e) {
        return List.of(e.get(1), 2 * e.get(2), 0);
    }

    /** ALL ROOTS and the ROW of each SPOT. */
    private static final class World {
        final List<List<Integer>> exact = new ArrayList<>();
        final List<BigDecimal> all = new ArrayList<>();
        final List<List<Integer>> spots = new ArrayList<>();
        final Map<List<Integer>, List<Integer>> rows = new LinkedHashMap<>();

        World(List<Poly> polys) {
            for (Poly p : polys) {
                exact.add(p.exact());
                for (BigDecimal r : solve(p.exact())) {
                    addUnlike(all, r);
                }
            }
            List<BigDecimal> samples = new ArrayList<>();
            if (all.isEmpty()) {
                samples.add(BigDecimal.ZERO);
            } else {
                samples.add(all.get(0).subtract(BigDecimal.ONE));
            }
            for (int k = 0; k < all.size(); k++) {
                BigDecimal r = all.get(k);
                samples.add(r);
                BigDecimal half = new BigDecimal("0.5");
                samples.add(k + 1 < all.size() ? r.add(all.get(k + 1)).multiply(half) : r.add(BigDecimal.ONE));
            }
            for (BigDecimal x : samples) {
                List<Integer> row = new ArrayList<>();
                for (List<Integer> e : exact) {
                    row.add(sign(e, x));
                }
                rows.computeIfAbsent(row, w -> new ArrayList<>()).add(spots.size());
                spots.add(row);
            }
        }

        int placeOf(BigDecimal x) {
            for (int k = 0; k < all.size(); k++) {
                if (all.get(k).subtract(x).abs().compareTo(NEAR) < 0) {
                    return k;
                }
            }
            return NONE;
        }
    }

    private final int[] lanes = new int[4];
    private final int[][] rows = new int[4][];
    private List<Poly> polys = new ArrayList<>();
    private World world = new World(polys);
    private final List<int[]> readings = new ArrayList<>();
    private int trace = 0;
    private int fault = 0;

    @Override
    public long ask(String name, int... a) {
        if (Calls.namesFaults(name)) {
            fault = 0;
        }
        try {
            return answer(name, a);
        } catch (Stop stop) {
            if (stop.answer <= -11 && stop.answer >= -14) {
                fault = -10 - stop.answer;
            }
            return Calls.answersLong(name) ? LOST : stop.answer;
        }
    }

    private static void refuse(boolean when, int how) {
        if (when) {
            throw new Stop(how);
        }
    }

    private static boolean in(int v, int least, int most) {
        return least <= v && v <= most;
    }

    private void poly(int p) {
        refuse(p < 0 || p >= polys.size(), UNKNOWN);
    }

    private void sheet(int k) {
        refuse(!in(k, 0, 3), UNKNOWN);
    }

    private List<BigDecimal> rootsOf(int p) {
        return solve(polys.get(p).exact());
    }

    private BigDecimal root(int p, int i) {
        poly(p);
        refuse(i < 0 || i >= rootsOf(p).size(), UNKNOWN);
        return rootsOf(p).get(i);
    }

    private int nameOf(int p, int i) {
        List<Integer> first = derivative(polys.get(p).exact());
        List<Integer> second = derivative(first);
        return sign(first, root(p, i)) * 3 + sign(second, root(p, i));
    }

    private int[] cells(int sheet, int lane, long i, long n) {
        refuse(rows[sheet] != null && lanes[sheet] != lane, -12);
        refuse(rows[sheet] == null, -11);
        refuse(n < 0, -14);
        refuse(i < 0 || i > rows[sheet].length || i + n > rows[sheet].length, -13);
        int[] taken = new int[(int) n];
        for (int at = 0; at < n; at++) {
            taken[at] = rows[sheet][(int) i + at];
        }
        return taken;
    }

    private long answer(String name, int[] a) {
        switch (name) {
            case "polynomials": return polynomials(a[0], a[1], a[2], a[3]);
            case "ofPolynomial": return ofPolynomial(a[0], a[1]);
            case "value":
                poly(a[0]);
                refuse(!in(a[1], -1000000, 1000000), OUTSIDE);
                return polys.get(a[0]).at(a[1]);
            case "tune": {
                poly(a[0]);
                refuse(!in(a[1], 0, 2) || !in(a[2], -9, 9), OUTSIDE);
                int was = polys.get(a[0]).told[a[1]];
                polys.set(a[0], polys.get(a[0]).with(a[1], a[2]));
                world = new World(polys);
                return was + 9;
            }
            case "day": return day(a[0], a[1], a[2], a[3], a[4]);
            case "called":
                root(a[0], a[1]);
                return nameOf(a[0], a[1]);
            case "byName":
                poly(a[0]);
                refuse(!in(a[1], 0, 8), OUTSIDE);
                for (int i = 0; i < rootsOf(a[0]).size(); i++) {
                    if (nameOf(a[0], i) == a[1]) {
                        return i;
                    }
                }
                return NONE;
            case "signAt": {
                BigDecimal x = root(a[0], a[1]);
                poly(a[2]);
                return sign(polys.get(a[2]).exact(), x);
            }
            case "more": {
                poly(a[0]);
                poly(a[1]);
                int sum = 2;
                for (BigDecimal x : rootsOf(a[0])) {
                    sum += sign(polys.get(a[1]).exact(), x) - 1;
                }
                return sum;
            }
            case "place": return world.placeOf(root(a[0], a[1]));
            case "sharers": return sharers(a[0]);
            default: return answerMore(name, a);
        }
    }

    private long answerMore(String name, int[] a) {
        switch (name) {
            case "line":
                refuse(!in(a[0], 0, 2), OUTSIDE);
                refuse(polys.isEmpty(), STATE);
                return a[0] == 0 ? world.all.size() : a[0] == 1 ? world.spots.size() : world.rows.size();
            case "signIn":
                poly(a[1]);
                refuse(!in(a[0], 0, world.spots.size() - 1), UNKNOWN);
                return world.spots.get(a[0]).get(a[1]);
            case "ofRow": return ofRow(a[0], a[1]);
            case "wish": return wish(a[0], a[1], a[2]);
            case "reading":
                poly(a[1]);
                refuse(!in(a[0], 0, 20) || !in(a[2], 0, 2), OUTSIDE);
                refuse(readings.size() == 8, FULL);
                readings.add(a.clone());
                return readings.size() - 1;
            case "back":
                refuse(!in(a[0], 0, readings.size()), OUTSIDE);
                for (int n = 0; n < a[0]; n++) {
                    readings.remove(readings.size() - 1);
                }
                return readings.size();
            case "kinds": {
                poly(a[0]);
                int set = 0;
                for (int kind = 0; kind < 3; kind++) {
                    set |= holds(a[0], polys.get(a[0]).of(kind)) ? 1 << kind : 0;
                }
                return set;
            }
            case "lows": {
                poly(a[0]);
                int set = 0;
                for (int low = -9; low <= 9; low++) {
                    set |= holds(a[0], polys.get(a[0]).with(0, low)) ? 1 << low + 9 : 0;
                }
                return set;
            }
            case "odds": return odds(a[0], a[1], a[2]);
            default: return answerOfSheets(name, a);
        }
    }

    private long answerOfSheets(String name, int[] a) {
        switch (name) {
            case "sheet":
                sheet(a[0]);
                refuse(!in(a[1], 0, 2) || a[2] > 60, OUTSIDE);
                refuse(a[2] < 0, -14);
                lanes[a[0]] = a[1];
                rows[a[0]] = new int[a[2]];
                return 1;
            case "lose": {
                sheet(a[0]);
                int had = rows[a[0]] == null ? 0 : 1;
                rows[a[0]] = null;
                return had;
            }
            case "put":
                sheet(a[0]);
                refuse(rows[a[0]] == null, -11);
                refuse(!in(a[1], 0, rows[a[0]].length - 1), -13);
                rows[a[0]][a[1]] = lanes[a[0]] == 0 ? (byte) a[2] : lanes[a[0]] == 1 ? (short) a[2] : a[2];
                return 1;
            case "cell":
                sheet(a[0]);
                refuse(!in(a[2], 0, 2), OUTSIDE);
                return cells(a[0], a[2], a[1], 1)[0];
            case "copy": {
                sheet(a[0]);
                sheet(a[2]);
                refuse(rows[a[0]] == null || rows[a[2]] == null, -11);
                refuse(lanes[a[0]] != lanes[a[2]], -12);
                refuse(a[4] < 0, -13);
                int[] taken = cells(a[0], lanes[a[0]], a[1], a[4]);
                cells(a[2], lanes[a[2]], a[3], a[4]);
                for (int n = 0; n < taken.length; n++) {
                    rows[a[2]][a[3] + n] = taken[n];
                }
                return a[4];
            }
            default: return answerOfParts(name, a);
        }
    }

    private long answerOfParts(String name, int[] a) {
        switch (name) {
            case "tell": {
                poly(a[0]);
                int kind = polys.get(a[0]).kind;
                int roots = rootsOf(a[0]).size();
                int[][] bodies = {{1}, {2, 1}, {3, 2, 1, 1}};
                for (int body : bodies[kind]) {
                    trace = trace * 31 + body;
                }
                return kind == 0 ? roots : kind == 1 ? roots + 100 : roots + 100 + roots;
            }
            case "call":
                poly(a[0]);
                trace = trace * 31 + (polys.get(a[0]).kind == 2 ? 5 : 4);
                return polys.get(a[0]).kind == 2 ? 60 : a[0];
            case "as":
                poly(a[0]);
                refuse(!in(a[1], 0, 2), OUTSIDE);
                refuse(polys.get(a[0]).kind < a[1], -12);
                return 1;
            case "trace": return trace;
            case "fault": return fault;
            default: return many(a[0]);
        }
    }

    private int many(int what) {
        refuse(!in(what, 0, 3), OUTSIDE);
        if (what == 0) {
            return polys.size();
        }
        int roots = 0;
        int zeroes = 0;
        for (int p = 0; p < polys.size(); p++) {
            roots += rootsOf(p).size();
            zeroes += polys.get(p).exact().equals(List.of(0, 0, 0)) ? 1 : 0;
        }
        return what == 1 ? roots : what == 2 ? zeroes : readings.size();
    }

    private int polynomials(int sheet, int lane, int i, int n) {
        sheet(sheet);
        refuse(!in(lane, 0, 2), OUTSIDE);
        int[] codes = cells(sheet, lane, i, n);
        StringBuilder text = new StringBuilder();
        for (int code : codes) {
            text.append(in(code, 0, 127) ? (char) code : '?');
            Matcher m = TEXT.matcher(text);
            refuse(!m.matches() && !m.hitEnd(), -100 - (text.length() - 1));
        }
        refuse(!TEXT.matcher(text).matches(), -100 - n);
        List<Poly> made = new ArrayList<>();
        for (String part : text.substring(2).split(";")) {
            Matcher digits = Pattern.compile("-?[0-9]").matcher(part);
            int[] told = new int[3];
            for (int k = 0; digits.find(); k++) {
                told[k] = Integer.parseInt(digits.group());
            }
            made.add(new Poly("pms".indexOf(part.charAt(0)), told));
        }
        polys = made;
        world = new World(polys);
        readings.clear();
        return polys.size();
    }

    private int ofPolynomial(int p, int what) {
        poly(p);
        refuse(!in(what, 0, 1) && !in(what, 10, 12) && !in(what, 20, 22), OUTSIDE);
        if (what == 0) {
            return polys.get(p).kind;
        }
        if (what == 1) {
            return rootsOf(p).size();
        }
        return what < 20 ? polys.get(p).told[what - 10] + 9 : polys.get(p).exact().get(what - 20) + 100;
    }

    private int day(int sheet, int lane, int i, int n, int what) {
        sheet(sheet);
        refuse(!in(lane, 0, 2) || !in(n, 0, 20) || !in(what, 0, 4) && !in(what, 10, 13), OUTSIDE);
        refuse(polys.isEmpty(), STATE);
        int[] acts = cells(sheet, lane, i, 3L * n);
        for (int act = 0; act < n; act++) {
            refuse(!in(acts[3 * act + 1], 0, 2) || !in(acts[3 * act + 2], -9, 9), OUTSIDE);
        }
        List<Poly> then = new ArrayList<>(polys);
        for (int act = 0; act < n; act++) {
            int p = acts[3 * act];
            if (p < 0 || p >= then.size()) {
                return what == 1 ? act : -100 - act;
            }
            then.set(p, then.get(p).with(acts[3 * act + 1], acts[3 * act + 2]));
        }
        World w = new World(then);
        int above = 0;
        for (List<Integer> row : w.spots) {
            above += row.contains(0) || row.contains(1) ? 0 : 1;
        }
        int rootless = 0;
        for (List<Integer> e : w.exact) {
            rootless += solve(e).isEmpty() ? 1 : 0;
        }
        if (what >= 10) {
            return what - 10 < then.size() ? solve(w.exact.get(what - 10)).size() : NONE;
        }
        return new int[] {w.all.size(), NONE, w.rows.size(), above, rootless}[what];
    }

    private int sharers(int k) {
        refuse(polys.isEmpty(), STATE);
        refuse(!in(k, 0, world.all.size() - 1), UNKNOWN);
        int set = 0;
        for (int p = 0; p < polys.size(); p++) {
            for (BigDecimal x : rootsOf(p)) {
                set |= world.placeOf(x) == k ? 1 << p : 0;
            }
        }
        return set;
    }

    private int ofRow(int r, int what) {
        refuse(polys.isEmpty() || !in(r, 0, world.rows.size() - 1), UNKNOWN);
        refuse(!in(what, 0, 1) && !in(what, 10, 13), OUTSIDE);
        List<Integer> row = new ArrayList<>(world.rows.keySet()).get(r);
        if (what < 10) {
            return what == 0 ? world.rows.get(row).get(0) : world.rows.get(row).size();
        }
        return what - 10 < row.size() ? row.get(what - 10) : NONE;
    }

    private int wish(int sheet, int lane, int i) {
        refuse(polys.isEmpty(), STATE);
        sheet(sheet);
        refuse(!in(lane, 0, 2), OUTSIDE);
        int[] wished = cells(sheet, lane, i, polys.size());
        for (int w : wished) {
            refuse(!in(w, 0, 3), OUTSIDE);
        }
        for (int k = 0; k < world.spots.size(); k++) {
            boolean met = true;
            for (int p = 0; p < wished.length; p++) {
                met &= wished[p] == 3 || wished[p] == world.spots.get(k).get(p);
            }
            if (met) {
                return k;
            }
        }
        return NONE;
    }

    private boolean holds(int p, Poly instead) {
        List<Poly> others = new ArrayList<>(polys);
        others.set(p, instead);
        World w = new World(others);
        for (int[] r : readings) {
            if (r[0] >= w.spots.size() || w.spots.get(r[0]).get(r[1]) != r[2]) {
                return false;
            }
        }
        return true;
    }

    private long odds(int p, int sign, int which) {
        poly(p);
        refuse(!in(sign, 0, 2) || !in(which, 0, 1), OUTSIDE);
        int such = 0;
        for (List<Integer> row : world.spots) {
            such += row.get(p) == sign ? 1 : 0;
        }
        int all = world.spots.size();
        int common = java.math.BigInteger.valueOf(such).gcd(java.math.BigInteger.valueOf(all)).intValue();
        return which == 0 ? such / common : all / common;
    }
}
