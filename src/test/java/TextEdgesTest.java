import java.util.Arrays;

/** The boundary cases of TEXTS: 'Terms' part 1, promise 2. */
public final class TextEdgesTest {
    private static final int UNKNOWN = -1, OUTSIDE = -2;
    private static final int NULL = 1, CAST = 2, INDEX = 3, SIZE = 4;
    /** As long as a TEXT can be: 33 codes. */
    private static final String LONGEST = "p;p-1-2-3;m-4-5-6;s-7-8-9;p-0-0-0";
    private static final String WITHOUT_DASHES = "p;p123;m456;s789;p000";
    private static final Due due = new Due();

    public static void main(String[] args) {
        endsTooSoon();
        firstCodeWithWhichNoTextGoesOn();
        fifthPolynomial();
        oneToFourPolynomials();
        dashAheadOfNought();
        digitsAndKinds();
        codesAreCutToTheirLane();
        onlyTheCellsThatAreTold();
        sheetsAndLanes();
        cellsFromIOn();
        noneTaken();
        textThatIsNotTaken();
        textThatIsTaken();
        due.end();
    }

    private static Scene start(String title) {
        return Scene.of(due, title);
    }

    private static Scene written(String title, int lane, String text) {
        return start(title).row(0, lane, Due.codes(text));
    }

    /** "how many codes there are, if it just ends too soon" */
    private static void endsTooSoon() {
        for (String text : new String[] {LONGEST, WITHOUT_DASHES}) {
            int each = text.equals(LONGEST) ? 8 : 5;
            for (int n = 0; n <= text.length(); n++) {
                boolean whole = n > 1 && (n - 1) % each == 0;
                written("ends too soon", n % 3, text).is(whole ? (n - 1) / each : -100 - n, "polynomials", 0, n % 3, 0, n);
            }
        }
    }

    /** "the place (from 0 on) of the first code with which no TEXT goes on": behind each beginning, each code. */
    private static void firstCodeWithWhichNoTextGoesOn() {
        for (String text : new String[] {LONGEST, WITHOUT_DASHES}) {
            for (int place = 0; place <= text.length(); place++) {
                String fine = goesOn(text, place);
                for (int code = -70; code <= 320; code++) {
                    boolean goes = code >= 0 && fine.indexOf(code) >= 0;
                    RootSigns x = new RootSigns();
                    int[] cells = Arrays.copyOf(Due.codes(text.substring(0, place)), place + 1);
                    cells[place] = code;
                    Due.write(x, 0, 2, cells);
                    due.is("behind '" + text.substring(0, place) + "' code " + code, x.polynomials(0, 2, 0, place + 1),
                        goes ? ended(text.substring(0, place) + (char) code) : -100 - place);
                }
            }
        }
        for (int code : new int[] {112 + 256, 112 - 256, 112 + 65536, 112 - 65536, Integer.MIN_VALUE, Integer.MAX_VALUE}) {
            start("code " + code).row(0, 2, code, 59).is(-100, "polynomials", 0, 2, 0, 2);
        }
        // the first of several, and one ahead of an end that is too soon
        written("x;x", 0, "x;x").is(-100, "polynomials", 0, 0, 0, 3);
        written("p;x", 0, "p;x").is(-102, "polynomials", 0, 0, 0, 3);
        written("p;pxx", 0, "p;pxx").is(-103, "polynomials", 0, 0, 0, 5);
    }

    /** The codes with which some TEXT goes on behind what a good one begins with. */
    private static String goesOn(String text, int place) {
        String before = text.substring(0, place);
        if (before.isEmpty()) {
            return "p";
        }
        String own = before.substring(before.lastIndexOf(';') + 1);
        if (before.indexOf(';') < 0) {
            return ";";
        }
        if (own.isEmpty()) {
            return "pms";
        }
        if (own.endsWith("-")) {
            return "0123456789";
        }
        if (own.replace("-", "").length() < 4) {
            return "-0123456789";
        }
        return before.chars().filter(c -> c == ';').count() < 4 ? ";" : "";
    }

    private static int ended(String text) {
        return text.matches("p(;[pms](-?\\d){3}){1,4}") ? (int) text.chars().filter(c -> c == ';').count() : -100 - text.length();
    }

    /** "(the ; of a fifth POLYNOMIAL)" */
    private static void fifthPolynomial() {
        written("fifth", 0, WITHOUT_DASHES).is(4, "polynomials", 0, 0, 0, 21);
        written("fifth", 0, WITHOUT_DASHES + ";").is(-121, "polynomials", 0, 0, 0, 22);
        written("fifth", 0, WITHOUT_DASHES + ";p111").is(-121, "polynomials", 0, 0, 0, 26);
        written("fifth", 0, LONGEST + ";").is(-133, "polynomials", 0, 0, 0, 34);
        written("fourth", 0, "p;p123;m456;s789;").is(-117, "polynomials", 0, 0, 0, 17);
    }

    /** "p, then 1 to 4 POLYNOMIALS, numbered from 0 on" */
    private static void oneToFourPolynomials() {
        written("none", 0, "p").is(-101, "polynomials", 0, 0, 0, 1);
        for (int count = 1; count <= 4; count++) {
            String text = WITHOUT_DASHES.substring(0, 1 + 5 * count);
            written("count", 0, text).is(count, "polynomials", 0, 0, 0, text.length());
            Scene taken = start(count + " taken").text(text);
            taken.is(count, "many", 0);
            taken.is(UNKNOWN, "ofPolynomial", -1, 0);
            taken.is((count - 1) % 3, "ofPolynomial", count - 1, 0);
            taken.is(UNKNOWN, "ofPolynomial", count, 0);
        }
    }

    /** "a dash ahead of it, if it is below 0 (a dash ahead of 0 is 0, too)" */
    private static void dashAheadOfNought() {
        Scene dashed = start("dashed").text("p;p-0-0-0;m-000;s0-00;p00-0");
        dashed.is(4, "many", 0);
        dashed.is(4, "many", 2);
        dashed.isLike("as without dashes", start("").text("p;p000;m000;s000;p000"));
        Scene below = start("below").text("p;p-1-0-9");
        below.is(8, "ofPolynomial", 0, 10);
        below.is(9, "ofPolynomial", 0, 11);
        below.is(0, "ofPolynomial", 0, 12);
    }

    /** "each a digit 0 .. 9"; "Kinds: 0 PLAIN (p); 1 MIRRORED (m) ..; 2 SHIFTED (s)" */
    private static void digitsAndKinds() {
        for (int digit = 0; digit <= 9; digit++) {
            Scene s = start("digit " + digit).text("p;p" + digit + digit + digit + ";p-" + digit + "-" + digit + "-" + digit);
            for (int k = 0; k < 3; k++) {
                due.is("digit", s.asked("ofPolynomial", 0, 10 + k), 9 + digit);
                due.is("digit below 0", s.asked("ofPolynomial", 1, 10 + k), 9 - digit);
            }
        }
        Scene kinds = start("kinds").text("p;s111;m111;p111");
        kinds.is(2, "ofPolynomial", 0, 0);
        kinds.is(1, "ofPolynomial", 1, 0);
        kinds.is(0, "ofPolynomial", 2, 0);
    }

    /** "what comes to a cell of it is cut to its LANE": codes, too */
    private static void codesAreCutToTheirLane() {
        int[] codes = Due.codes("p;p123");
        for (int lane = 0; lane < 3; lane++) {
            int[] byBytes = new int[6];
            int[] byShorts = new int[6];
            for (int i = 0; i < 6; i++) {
                byBytes[i] = codes[i] - 256;
                byShorts[i] = codes[i] + 65536;
            }
            start("256 less").row(0, lane, byBytes).is(lane == 0 ? 1 : -100, "polynomials", 0, lane, 0, 6);
            start("65536 more").row(0, lane, byShorts).is(lane < 2 ? 1 : -100, "polynomials", 0, lane, 0, 6);
        }
    }

    /** "a TEXT of n cells of a SHEET from i on" */
    private static void onlyTheCellsThatAreTold() {
        Scene s = written("among others", 1, ";p;p123;m456x");
        s.is(1, "polynomials", 0, 1, 1, 6);
        s.is(2, "polynomials", 0, 1, 1, 11);
        s.is(-111, "polynomials", 0, 1, 1, 12);
        s.is(-110, "polynomials", 0, 1, 1, 10);
        s.is(-101, "polynomials", 0, 1, 3, 7);
        s.is(-100, "polynomials", 0, 1, 0, 7);
        int[] sixty = new int[60];
        System.arraycopy(Due.codes("p;s012"), 0, sixty, 54, 6);
        Scene atTheEnd = start("sixty cells").row(2, 2, sixty);
        atTheEnd.is(1, "polynomials", 2, 2, 54, 6);
        atTheEnd.is(-105, "polynomials", 2, 2, 54, 5);
        atTheEnd.fails(INDEX, "polynomials", 2, 2, 54, 7);
        atTheEnd.fails(INDEX, "polynomials", 2, 2, 55, 6);
        atTheEnd.is(-100, "polynomials", 2, 2, 0, 60);
        atTheEnd.fails(INDEX, "polynomials", 2, 2, 0, 61);
    }

    private static Scene threeLanes() {
        int[] codes = Due.codes("p;p123");
        return start("three lanes").text("p;m-101").with("reading", 0, 0, 2).row(0, 0, codes).row(1, 1, codes).row(2, 2, codes).faulty();
    }

    /** "UNKNOWN; OUTSIDE: lane; CAST (nothing is no CAST); NULL" */
    private static void sheetsAndLanes() {
        Scene s = threeLanes();
        for (int lane = 0; lane < 3; lane++) {
            for (int sheet = 0; sheet < 3; sheet++) {
                if (sheet == lane) {
                    s.is(1, "polynomials", sheet, lane, 0, 6);
                } else {
                    s.fails(CAST, "polynomials", sheet, lane, 0, 6);
                }
            }
            s.fails(NULL, "polynomials", 3, lane, 0, 6);
            s.fails(NULL, "polynomials", 3, lane, 0, 0);
            s.is(UNKNOWN, "polynomials", -1, lane, 0, 6);
            s.is(UNKNOWN, "polynomials", 4, lane, 0, 6);
            s.is(UNKNOWN, "polynomials", Integer.MIN_VALUE, lane, 0, 6);
            s.is(UNKNOWN, "polynomials", Integer.MAX_VALUE, lane, 0, 6);
        }
        for (int lane : new int[] {-1, 3, Integer.MIN_VALUE, Integer.MAX_VALUE}) {
            s.is(OUTSIDE, "polynomials", 0, lane, 0, 6);
            s.is(OUTSIDE, "polynomials", 3, lane, 0, 6);
        }
    }

    /** "SIZE: n below 0; INDEX" */
    private static void cellsFromIOn() {
        Scene s = threeLanes();
        s.fails(SIZE, "polynomials", 0, 0, 0, -1);
        s.fails(SIZE, "polynomials", 0, 0, 0, Integer.MIN_VALUE);
        s.fails(SIZE, "polynomials", 0, 0, 7, -1);
        s.is(1, "polynomials", 0, 0, 0, 6);
        s.fails(INDEX, "polynomials", 0, 0, 0, 7);
        s.fails(INDEX, "polynomials", 0, 0, 0, Integer.MAX_VALUE);
        s.fails(INDEX, "polynomials", 0, 0, -1, 6);
        s.fails(INDEX, "polynomials", 0, 0, -1, 7);
        s.fails(INDEX, "polynomials", 0, 0, 1, 6);
        s.is(-100, "polynomials", 0, 0, 1, 5);
        s.fails(INDEX, "polynomials", 0, 0, 6, 1);
        s.fails(INDEX, "polynomials", 0, 0, 1, Integer.MAX_VALUE);
        s.fails(INDEX, "polynomials", 0, 0, Integer.MAX_VALUE, 1);
        s.fails(INDEX, "polynomials", 0, 0, Integer.MAX_VALUE, Integer.MAX_VALUE);
        s.fails(INDEX, "polynomials", 0, 0, Integer.MIN_VALUE, 1);
    }

    /** "INDEX (of cells from i on also where i is not 0 .. how many there are, if none of them is taken, too)" */
    private static void noneTaken() {
        Scene s = threeLanes();
        s.fails(INDEX, "polynomials", 0, 0, -1, 0);
        s.is(-100, "polynomials", 0, 0, 0, 0);
        s.is(-100, "polynomials", 0, 0, 6, 0);
        s.fails(INDEX, "polynomials", 0, 0, 7, 0);
        s.fails(INDEX, "polynomials", 0, 0, Integer.MAX_VALUE, 0);
        s.fails(INDEX, "polynomials", 0, 0, Integer.MIN_VALUE, 0);
        Scene empty = start("no cells").with("sheet", 0, 0, 0).faulty();
        empty.fails(INDEX, "polynomials", 0, 0, -1, 0);
        empty.is(-100, "polynomials", 0, 0, 0, 0);
        empty.fails(INDEX, "polynomials", 0, 0, 1, 0);
        empty.fails(INDEX, "polynomials", 0, 0, 0, 1);
    }

    /** "-100 less the FIRST FAULT": then all stays as it was, READINGS too, however far the TEXT was read. */
    private static void textThatIsNotTaken() {
        Scene s = start("not taken").text("p;p-201;m310;s100").with("reading", 0, 0, 2).with("reading", 1, 0, 0).with("tell", 2);
        String[] texts = {"", "p", "p;s999;s999;s999;s999;", "p;s999;s999;s99", "p;m-9-9-9;x", "p;p000-"};
        int[] answers = {-100, -101, -121, -115, -110, -106};
        for (int t = 0; t < texts.length; t++) {
            s.row(1, 0, Due.codes(texts[t])).faulty().is(answers[t], "polynomials", 1, 0, 0, texts[t].length());
        }
    }

    /** "A TEXT that is taken makes all anew: no READINGS." */
    private static void textThatIsTaken() {
        Scene before = start("taken").text("p;p-201;m310;s100").with("reading", 0, 0, 2).with("reading", 1, 0, 0);
        before.is(2, "many", 3);
        Scene after = before.text("p;m-501");
        after.is(0, "many", 3);
        after.is(1, "many", 0);
        after.isLike("as on a new object", start("").text("p;m-501"));
        Scene same = before.text("p;p-201;m310;s100");
        same.is(0, "many", 3);
        same.isLike("the same TEXT again, without READINGS", start("").text("p;p-201;m310;s100"));
        Scene full = before;
        for (int r = 2; r < 8; r++) {
            full = full.with("reading", 0, 0, 2);
        }
        full.is(-4, "reading", 0, 0, 2);
        full.text("p;p001").is(0, "reading", 0, 0, 2);
        // what was tuned is told anew, too; TRACE and SHEETS are none of what a TEXT tells
        before.with("tune", 0, 0, 9).text("p;p-201;m310;s100").isLike("tuned before", same);
        Scene traced = start("traced").row(1, 2, 7, 8).with("tell", 0).text("p;s000").with("tell", 0).with("tune", 0, 0, 1);
        due.is("TRACE stays", traced.text("p;p000").asked("trace"), traced.asked("trace"));
        due.is("SHEETS stay", traced.text("p;p000").asked("cell", 1, 1, 2), 8);
    }
}
