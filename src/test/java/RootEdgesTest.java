/** The boundary cases of ROOTS: 'Terms' parts 1 and 3, promises 7 to 12. */
public final class RootEdgesTest {
    private static final int UNKNOWN = -1, OUTSIDE = -2, STATE = -3, NONE = -9;
    private static final int[] FAR = {Integer.MIN_VALUE, Integer.MAX_VALUE};
    private static final Due due = new Due();

    public static void main(String[] args) {
        eachName();
        namesOutside();
        rootsThatAreNotThere();
        polynomialsThatAreNotThere();
        signsAtItsOwnRoots();
        signsBesideARoot();
        moreFromLeastToGreatest();
        placesFromLeastToGreatest();
        lineWithoutRoots();
        theSameNumberHoweverItIsWritten();
        nearestNumbersAreToldApart();
        sharersAsASet();
        due.end();
    }

    private static Scene text(String text) {
        return Scene.of(due, text).text(text).faulty();
    }

    /** "NAME of a ROOT": all that there are; 4, of no slope and no bend, no ROOT can have. */
    private static void eachName() {
        int[] lesser = {6, 1, 2, 3, NONE, 5, 6, 7, 2};
        int[] greater = {0, UNKNOWN, 8, UNKNOWN, NONE, UNKNOWN, 0, UNKNOWN, 8};
        String[] plain = {"10-1", "1-10", "-101", "-12-1", "", "1-21", "10-1", "110", "-101"};
        String[] mirrored = {"10-1", "110", "-101", "-12-1", "", "1-21", "10-1", "1-10", "-101"};
        for (int name = 0; name < 9; name++) {
            for (int kind = 0; kind < 3 && name != 4; kind++) {
                Scene s = text("p;" + "pms".charAt(kind) + (kind == 0 ? plain[name] : mirrored[name]));
                s.is(lesser[name], "called", 0, 0);
                s.is(greater[name], "called", 0, 1);
                s.is(name == lesser[name] ? 0 : 1, "byName", 0, name);
                for (int other = 0; other < 9; other++) {
                    boolean has = other == lesser[name] || other == greater[name];
                    due.isTrue("byName " + other, has == (s.asked("byName", 0, other) >= 0));
                }
            }
        }
    }

    /** "a NAME (0 .. 8); NONE: it has none such" */
    private static void namesOutside() {
        Scene s = text("p;p-101;p000;p101");
        for (int name : new int[] {-1, 9, Integer.MIN_VALUE, Integer.MAX_VALUE}) {
            s.is(OUTSIDE, "byName", 0, name);
            s.is(OUTSIDE, "byName", 1, name);
            s.is(UNKNOWN, "byName", 3, name);
        }
        s.is(NONE, "byName", 0, 0);
        s.is(1, "byName", 0, 8);
        for (int name = 0; name < 9; name++) {
            s.is(NONE, "byName", 1, name);
            s.is(NONE, "byName", 2, name);
        }
    }

    /** "UNKNOWN: POLYNOMIAL, ROOT": of POLYNOMIALS with two ROOTS, one that is there twice, one, and none. */
    private static void rootsThatAreNotThere() {
        Scene s = text("p;p-101;p121;p310;p101");
        Scene nought = text("p;p000;p900");
        int[] roots = {2, 1, 1, 0};
        for (int p = 0; p < 4; p++) {
            for (int i = -1; i <= 3; i++) {
                boolean there = i >= 0 && i < roots[p];
                due.isTrue("called " + p + " " + i, there == s.asked("called", p, i) >= 0);
                due.isTrue("place " + p + " " + i, there == s.asked("place", p, i) >= 0);
                due.isTrue("signAt " + p + " " + i, there == s.asked("signAt", p, i, 3) >= 0);
            }
            for (int i : new int[] {Integer.MIN_VALUE, -1, roots[p], Integer.MAX_VALUE}) {
                s.is(UNKNOWN, "called", p, i);
                s.is(UNKNOWN, "place", p, i);
                s.is(UNKNOWN, "signAt", p, i, 0);
                nought.is(UNKNOWN, "called", p, i);
                nought.is(UNKNOWN, "place", p, i);
                nought.is(UNKNOWN, "signAt", p, i, 0);
            }
        }
        // a ROOT that was there and is not any more
        Scene tuned = s.with("tune", 0, 0, 1);
        tuned.is(UNKNOWN, "called", 0, 0);
        tuned.is(UNKNOWN, "place", 0, 1);
        s.with("tune", 0, 2, 0).with("tune", 0, 1, 1).is(UNKNOWN, "called", 0, 1);
    }

    private static void polynomialsThatAreNotThere() {
        Scene s = text("p;p-101;p010");
        for (int p : new int[] {Integer.MIN_VALUE, -1, 2, 3, 4, Integer.MAX_VALUE}) {
            s.is(UNKNOWN, "called", p, 0);
            s.is(UNKNOWN, "byName", p, 0);
            s.is(UNKNOWN, "signAt", p, 0, 0);
            s.is(UNKNOWN, "signAt", 0, 0, p);
            s.is(UNKNOWN, "signAt", 0, 2, p);
            s.is(UNKNOWN, "more", p, 0);
            s.is(UNKNOWN, "more", 0, p);
            s.is(UNKNOWN, "more", p, p);
            s.is(UNKNOWN, "place", p, 0);
        }
        s.is(7, "called", 1, 0);
        s.is(2, "signAt", 0, 1, 1);
        s.is(1, "more", 1, 0);
        s.is(1, "place", 1, 0);
    }

    private static void signsAtItsOwnRoots() {
        Scene s = text("p;p-501;m-5-19;s-979;p1-69");
        int[] roots = {2, 2, 2, 1};
        for (int p = 0; p < 4; p++) {
            for (int i = 0; i < roots[p]; i++) {
                s.is(1, "signAt", p, i, p);
            }
            s.is(2, "more", p, p);
        }
    }

    /** The SIGN of another one just below 0, 0 and just above 0 at a ROOT that is no fraction, and at one that is. */
    private static void signsBesideARoot() {
        // the square root of 2 lies between 7/5 and 10/7, the golden ratio between 8/5 and 5/3
        Scene two = text("p;p-201;p-750;p-320;p20-1");
        two.is(2, "signAt", 0, 1, 1);
        two.is(0, "signAt", 0, 1, 2);
        two.is(1, "signAt", 0, 0, 3);
        two.is(1, "signAt", 0, 1, 3);
        Scene golden = text("p;p-1-11;p-850;p-530;p22-2");
        golden.is(2, "signAt", 0, 1, 1);
        golden.is(0, "signAt", 0, 1, 2);
        golden.is(1, "signAt", 0, 1, 3);
        // 2/3: 5 x - 3, 6 x - 4, 7 x - 5 there
        Scene fraction = text("p;p-230;p-350;p-460;p-570");
        fraction.is(2, "signAt", 0, 0, 1);
        fraction.is(1, "signAt", 0, 0, 2);
        fraction.is(0, "signAt", 0, 0, 3);
    }

    /** "MORE of two POLYNOMIALS, and 2": -2 .. 2, so 0 .. 4. */
    private static void moreFromLeastToGreatest() {
        // at -1 and 1: both below, below and 0, below and above, 0 and above, both above
        String[] others = {"p-900", "p-110", "p010", "p110", "p900"};
        for (int due4 = 0; due4 < 5; due4++) {
            text("p;p-101;" + others[due4]).is(due4, "more", 0, 1);
            text("p;p10-1;" + others[due4]).is(due4, "more", 0, 1);
        }
        Scene one = text("p;p010;p-100;p000;p100");
        for (int q = 1; q < 4; q++) {
            one.is(q, "more", 0, q);
        }
        // without ROOTS there is nothing to count
        for (String none : new String[] {"p000", "p900", "p101", "s-10-1"}) {
            text("p;" + none + ";p900").is(2, "more", 0, 1);
            text("p;" + none + ";p-900").is(2, "more", 0, 1);
        }
    }

    /** "ALL ROOTS .. unlike numbers, the least first, numbered from 0 on": from one to the eight there can be. */
    private static void placesFromLeastToGreatest() {
        Scene eight = text("p;p-601;p-901;p-701;p-801");
        int[] places = {3, 0, 2, 1};
        for (int p = 0; p < 4; p++) {
            eight.is(places[p], "place", p, 0);
            eight.is(7 - places[p], "place", p, 1);
        }
        eight.is(8, "line", 0);
        eight.is(UNKNOWN, "sharers", 8);
        eight.is(2, "sharers", 7);
        Scene one = text("p;p0-10;m002;s110");
        for (int p = 0; p < 3; p++) {
            one.is(0, "place", p, 0);
        }
        one.is(1, "line", 0);
        one.is(7, "sharers", 0);
        one.is(UNKNOWN, "sharers", 1);
    }

    /** "a line without ROOTS": no number of ALL ROOTS, but STATE only where there are no POLYNOMIALS. */
    private static void lineWithoutRoots() {
        for (String text : new String[] {"p;p000", "p;p101", "p;p900;m-900;s000;p-10-1"}) {
            Scene s = text(text);
            s.is(0, "line", 0);
            for (int k : new int[] {Integer.MIN_VALUE, -1, 0, 1, Integer.MAX_VALUE}) {
                s.is(UNKNOWN, "sharers", k);
            }
        }
        Scene none = Scene.of(due, "no polynomials").faulty();
        for (int k : new int[] {Integer.MIN_VALUE, -1, 0, 1, Integer.MAX_VALUE}) {
            none.is(STATE, "sharers", k);
        }
    }

    /** "no two told apart that are the same number however it is written" */
    private static void theSameNumberHoweverItIsWritten() {
        // the golden ratio; 1/3; a ROOT that is there twice; ROOTS of which one is shared
        check("p;p-1-11;p22-2;m-111;s131", 2, 15, 15);
        check("p;p-130;p-253;p1-69;m130", 2, 2, 15);
        check("p;p121;p-2-4-2;p110;m1-21", 1, 15);
        check("p;p-101;p110;p-110;p0-11", 3, 3, 8, 13);
        // x x - 8, told so and told shifted; x x - 2 and what that is times 2, 3, 4; the same of x x - 1
        check("p;p-801;s-721", 2, 3, 3);
        check("p;p-201;p-402;p-603;p-804", 2, 15, 15);
        check("p;p-101;p-202;p-909;p10-1", 2, 15, 15);
    }

    private static void check(String text, int count, int... sharers) {
        Scene s = text(text);
        s.is(count, "line", 0);
        for (int k = 0; k < count; k++) {
            s.is(sharers.length > k ? sharers[k] : -100, "sharers", k);
        }
        s.is(UNKNOWN, "sharers", count);
    }

    /** The two unlike ROOTS that lie nearest to one another, of all POLYNOMIALS that there can be. */
    private static void nearestNumbersAreToldApart() {
        // -0.51774.. and -0.51765..; then -0.89504.. and -0.89501.., a third of that apart
        Scene near = text("p;p-6-95;p-5-59");
        near.is(4, "line", 0);
        near.is(0, "place", 0, 0);
        near.is(1, "place", 1, 0);
        near.is(2, "place", 1, 1);
        near.is(3, "place", 0, 1);
        Scene nearest = text("p;p-9-29;s-1-95");
        nearest.is(4, "line", 0);
        nearest.is(0, "place", 1, 0);
        nearest.is(1, "place", 0, 0);
        nearest.is(2, "place", 1, 1);
        nearest.is(3, "place", 0, 1);
        nearest.is(0, "signAt", 0, 0, 1);
        nearest.is(0, "signAt", 1, 1, 0);
    }

    /** "POLYNOMIALS that have number k of ALL ROOTS for a ROOT, as a set." */
    private static void sharersAsASet() {
        Scene s = text("p;p-101;p110;p-110;p-310");
        s.is(3, "sharers", 0);
        s.is(5, "sharers", 1);
        s.is(8, "sharers", 2);
        s.is(UNKNOWN, "sharers", 3);
        s.is(UNKNOWN, "sharers", -1);
        for (int k : FAR) {
            s.is(UNKNOWN, "sharers", k);
        }
        for (int p = 0; p < 4; p++) {
            StringBuilder text = new StringBuilder("p");
            for (int q = 0; q < 4; q++) {
                text.append(q == p ? ";p010" : ";p900");
            }
            text(text.toString()).is(1 << p, "sharers", 0);
        }
    }
}
