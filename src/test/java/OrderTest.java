import java.util.ArrayList;
import java.util.List;

/**
 * "Of several the first in the order in which a call's line tells them", of refusals; "of a call the first that is come to,
 * in the order told", of FAULTS: each call with everything about it wrong that can be wrong at once, in all ways.
 * Each time nothing but fault() may have changed.
 */
public final class OrderTest {
    private static final int UNKNOWN = -1, OUTSIDE = -2, STATE = -3, FULL = -4;
    private static final int NULL = -11, CAST = -12, INDEX = -13, SIZE = -14;
    private static final long LOST = Long.MIN_VALUE;
    private static final int SCENE = -1;
    private static final Due due = new Due();

    /** One thing that is wrong: an argument has a value, or the scene is another; told in the document's order. */
    private record Wrong(int argument, int value, long answer, int fault) { }

    public static void main(String[] args) {
        ofPolynomials();
        ofRoots();
        ofLine();
        ofReadings();
        ofSheets();
        ofParts();
        due.end();
    }

    /** SHEET 0: a TEXT, from 12 on three acts (fine, OUTSIDE, of no POLYNOMIAL), from 21 on two WISHES (fine, OUTSIDE). */
    private static Scene sheets(String title) {
        int[] cells = new int[25];
        int[] text = Due.codes("p;p-101;p010");
        int[] rest = {1, 0, -1, 0, 3, 0, 7, 0, 0, 2, 3, 4, 0};
        System.arraycopy(text, 0, cells, 0, text.length);
        System.arraycopy(rest, 0, cells, text.length, rest.length);
        return Scene.of(due, title).row(0, 0, cells).row(1, 1, cells);
    }

    private static Scene ready() {
        return sheets("ready").with("polynomials", 0, 0, 0, 12).with("reading", 0, 0, 2).with("reading", 1, 1, 0).with("tell", 0)
            .faulty();
    }

    private static Scene bare() {
        return sheets("no polynomials").faulty();
    }

    private static Scene full() {
        Scene s = ready().called("full");
        for (int r = 2; r < 8; r++) {
            s = s.with("reading", 0, 0, 2);
        }
        return s;
    }

    private static Wrong refused(int argument, int value, long answer) {
        return new Wrong(argument, value, answer, 0);
    }

    private static Wrong failed(int argument, int value, int answer) {
        return new Wrong(argument, value, answer, -10 - answer);
    }

    private static int[] arguments(int... a) {
        return a;
    }

    private static void order(Scene other, String name, int[] fine, Wrong... wrongs) {
        choose(other, name, fine, List.of(wrongs), 0, new ArrayList<>());
    }

    /** Takes each wrong or leaves it; of one argument no two. */
    private static void choose(Scene other, String name, int[] fine, List<Wrong> wrongs, int at, List<Wrong> taken) {
        if (at == wrongs.size()) {
            check(other, name, fine, taken);
            return;
        }
        choose(other, name, fine, wrongs, at + 1, taken);
        Wrong wrong = wrongs.get(at);
        for (Wrong t : taken) {
            if (t.argument == wrong.argument) {
                return;
            }
        }
        taken.add(wrong);
        choose(other, name, fine, wrongs, at + 1, taken);
        taken.remove(taken.size() - 1);
    }

    private static void check(Scene other, String name, int[] fine, List<Wrong> taken) {
        Scene scene = READY;
        int[] a = fine.clone();
        for (Wrong wrong : taken) {
            if (wrong.argument == SCENE) {
                scene = other;
            } else {
                a[wrong.argument] = wrong.value;
            }
        }
        if (taken.isEmpty()) {
            due.isTrue("fine: " + Calls.told(name, a), scene.asked(name, a) >= 0);
        } else if (taken.get(0).fault != 0) {
            scene.fails(taken.get(0).fault, name, a);
        } else {
            scene.is(taken.get(0).answer, name, a);
        }
    }

    private static final Scene READY = ready();
    private static final Scene BARE = bare();
    private static final Scene CROWDED = full();

    private static void ofPolynomials() {
        // UNKNOWN; OUTSIDE: lane; CAST (nothing is no CAST); NULL; SIZE: n below 0; INDEX; -100 less it
        order(null, "polynomials", arguments(0, 0, 0, 12), refused(0, -1, UNKNOWN), refused(0, 4, UNKNOWN), refused(1, -1, OUTSIDE),
            refused(1, 3, OUTSIDE), failed(0, 1, CAST), failed(0, 2, NULL), failed(3, -1, SIZE), failed(2, -1, INDEX),
            failed(2, 26, INDEX), refused(3, 11, -111));
        // UNKNOWN; OUTSIDE: what
        order(null, "ofPolynomial", arguments(0, 0), refused(0, -1, UNKNOWN), refused(0, 2, UNKNOWN), refused(1, -1, OUTSIDE),
            refused(1, 2, OUTSIDE));
        // LOST: UNKNOWN; OUTSIDE: x
        order(null, "value", arguments(0, 2), refused(0, 2, LOST), refused(1, 1000001, LOST));
        // UNKNOWN; OUTSIDE: k, v
        order(null, "tune", arguments(0, 0, 0), refused(0, -1, UNKNOWN), refused(0, 2, UNKNOWN), refused(1, -1, OUTSIDE),
            refused(1, 3, OUTSIDE), refused(2, -10, OUTSIDE), refused(2, 10, OUTSIDE));
        // UNKNOWN: SHEET; OUTSIDE: lane, n, what; STATE; CAST; NULL; INDEX; three by three OUTSIDE; of one with a FIRST WRONG
        order(BARE, "day", arguments(0, 0, 12, 1, 0), refused(0, -1, UNKNOWN), refused(0, 4, UNKNOWN), refused(1, 3, OUTSIDE),
            refused(3, -1, OUTSIDE), refused(3, 21, OUTSIDE), refused(4, 5, OUTSIDE), refused(SCENE, 0, STATE), failed(0, 1, CAST),
            failed(0, 2, NULL), failed(2, -1, INDEX), failed(2, 26, INDEX), refused(2, 15, OUTSIDE), refused(2, 18, -100));
    }

    private static void ofRoots() {
        // UNKNOWN: POLYNOMIAL, ROOT
        order(null, "called", arguments(0, 0), refused(0, 2, UNKNOWN), refused(1, 2, UNKNOWN));
        // UNKNOWN; OUTSIDE
        order(null, "byName", arguments(0, 2), refused(0, -1, UNKNOWN), refused(0, 2, UNKNOWN), refused(1, -1, OUTSIDE),
            refused(1, 9, OUTSIDE));
        // UNKNOWN: POLYNOMIAL, ROOT, the other POLYNOMIAL
        order(null, "signAt", arguments(0, 0, 1), refused(0, 2, UNKNOWN), refused(1, 2, UNKNOWN), refused(2, 2, UNKNOWN));
        order(null, "more", arguments(0, 1), refused(0, 2, UNKNOWN), refused(1, 2, UNKNOWN));
        order(null, "place", arguments(0, 0), refused(0, 2, UNKNOWN), refused(1, 2, UNKNOWN));
        // STATE: there are no POLYNOMIALS (ahead of it); UNKNOWN: there is no such one
        order(BARE, "sharers", arguments(0), refused(SCENE, 0, STATE), refused(0, -1, UNKNOWN), refused(0, 3, UNKNOWN));
    }

    private static void ofLine() {
        // OUTSIDE; STATE: there are no POLYNOMIALS
        order(BARE, "line", arguments(0), refused(0, -1, OUTSIDE), refused(0, 3, OUTSIDE), refused(SCENE, 0, STATE));
        // UNKNOWN: POLYNOMIAL, SPOT
        order(BARE, "signIn", arguments(0, 0), refused(SCENE, 0, UNKNOWN), refused(1, 2, UNKNOWN), refused(0, 7, UNKNOWN));
        // UNKNOWN: there is no such ROW; OUTSIDE: what
        order(BARE, "ofRow", arguments(0, 0), refused(SCENE, 0, UNKNOWN), refused(0, -1, UNKNOWN), refused(0, 7, UNKNOWN),
            refused(1, 2, OUTSIDE));
        // STATE; UNKNOWN: SHEET; OUTSIDE: lane; CAST; NULL; INDEX; OUTSIDE: a cell is not 0 .. 3
        order(BARE, "wish", arguments(0, 0, 21), refused(SCENE, 0, STATE), refused(0, -1, UNKNOWN), refused(0, 4, UNKNOWN),
            refused(1, -1, OUTSIDE), refused(1, 3, OUTSIDE), failed(0, 1, CAST), failed(0, 2, NULL), failed(2, -1, INDEX),
            failed(2, 24, INDEX), refused(2, 23, OUTSIDE));
    }

    private static void ofReadings() {
        // UNKNOWN: POLYNOMIAL; OUTSIDE: k, sign; FULL
        order(CROWDED, "reading", arguments(0, 0, 2), refused(1, -1, UNKNOWN), refused(1, 2, UNKNOWN), refused(0, -1, OUTSIDE),
            refused(0, 21, OUTSIDE), refused(2, -1, OUTSIDE), refused(2, 3, OUTSIDE), refused(SCENE, 0, FULL));
        order(BARE, "back", arguments(0), refused(0, -1, OUTSIDE), refused(0, 3, OUTSIDE));
        order(BARE, "kinds", arguments(0), refused(SCENE, 0, UNKNOWN), refused(0, -1, UNKNOWN), refused(0, 2, UNKNOWN));
        order(BARE, "lows", arguments(0), refused(SCENE, 0, UNKNOWN), refused(0, -1, UNKNOWN), refused(0, 2, UNKNOWN));
        // LOST: UNKNOWN; OUTSIDE: sign, which
        order(BARE, "odds", arguments(0, 0, 0), refused(SCENE, 0, LOST), refused(0, 2, LOST), refused(1, 3, LOST),
            refused(2, 2, LOST));
    }

    private static void ofSheets() {
        // UNKNOWN; OUTSIDE: lane, n above 60; SIZE
        order(null, "sheet", arguments(2, 0, 5), refused(0, -1, UNKNOWN), refused(0, 4, UNKNOWN), refused(1, -1, OUTSIDE),
            refused(1, 3, OUTSIDE), refused(2, 61, OUTSIDE), failed(2, -1, SIZE));
        // UNKNOWN; NULL; INDEX
        order(null, "put", arguments(0, 0, 1), refused(0, -1, UNKNOWN), refused(0, 4, UNKNOWN), failed(0, 2, NULL),
            failed(1, -1, INDEX), failed(1, 25, INDEX));
        // LOST: UNKNOWN, OUTSIDE: lane; FAULTS CAST (nothing is no CAST), NULL, INDEX
        order(null, "cell", arguments(0, 0, 0), refused(0, -1, LOST), refused(0, 4, LOST), refused(2, -1, LOST), refused(2, 3, LOST),
            failed(0, 1, CAST), failed(0, 2, NULL), failed(1, -1, INDEX), failed(1, 25, INDEX));
        // UNKNOWN; FAULTS NULL (the first, the other), CAST (unlike LANES), INDEX: i, j, n below 0 or beyond
        order(null, "copy", arguments(0, 0, 0, 1, 3), refused(0, 4, UNKNOWN), refused(2, 4, UNKNOWN), failed(0, 2, NULL),
            failed(2, 3, NULL), failed(2, 1, CAST), failed(1, -1, INDEX), failed(1, 26, INDEX), failed(3, -1, INDEX),
            failed(3, 26, INDEX), failed(4, -1, INDEX), failed(4, 26, INDEX));
    }

    private static void ofParts() {
        order(BARE, "tell", arguments(0), refused(SCENE, 0, UNKNOWN), refused(0, -1, UNKNOWN), refused(0, 2, UNKNOWN));
        order(BARE, "call", arguments(0), refused(SCENE, 0, UNKNOWN), refused(0, -1, UNKNOWN), refused(0, 2, UNKNOWN));
        // UNKNOWN; OUTSIDE; CAST: it is none
        order(BARE, "as", arguments(0, 0), refused(SCENE, 0, UNKNOWN), refused(0, -1, UNKNOWN), refused(0, 2, UNKNOWN),
            refused(1, -1, OUTSIDE), refused(1, 3, OUTSIDE), failed(1, 1, CAST), failed(1, 2, CAST));
        order(BARE, "many", arguments(0), refused(0, -1, OUTSIDE), refused(0, 4, OUTSIDE));
    }
}
