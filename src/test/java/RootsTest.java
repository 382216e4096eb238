/** Promises 7 to 12: called, byName, signAt, more, place, sharers. */
public final class RootsTest {
    private static final int UNKNOWN = -1, OUTSIDE = -2, STATE = -3, NONE = -9;
    private static final Due due = new Due();

    public static void main(String[] args) {
        names();
        refusalsOfNames();
        signAt();
        signAtTellsApartWhatIsNear();
        more();
        placeAndSharers();
        sameNumberHoweverWritten();
        nearNumbersAreToldApart();
        due.end();
    }

    private static void names() {
        String[] texts = {"p;p-201", "p;p20-1", "p;p121", "p;p-12-1", "p;p350", "p;p3-50", "p;m350", "p;m-201", "p;s350", "p;s121"};
        int[][] called = {{2, 8}, {6, 0}, {5, UNKNOWN}, {3, UNKNOWN}, {7, UNKNOWN}, {1, UNKNOWN}, {1, UNKNOWN}, {2, 8},
            {1, UNKNOWN}, {5, UNKNOWN}};
        for (int t = 0; t < texts.length; t++) {
            RootSigns x = Due.of(texts[t]);
            due.is("called 0 of " + texts[t], x.called(0, 0), called[t][0]);
            due.is("called 1 of " + texts[t], x.called(0, 1), called[t][1]);
            for (int name = 0; name < 9; name++) {
                int root = name == called[t][0] ? 0 : name == called[t][1] ? 1 : NONE;
                due.is("byName " + name + " of " + texts[t], x.byName(0, name), root);
            }
        }
        due.is("no root has a name", Due.of("p;p101").byName(0, 8), NONE);
        due.is("0 for each x has none", Due.of("p;p000").byName(0, 4), NONE);
    }

    private static void refusalsOfNames() {
        RootSigns x = Due.of("p;p-201;p000;p700");
        for (int i : new int[] {-1, 2, Integer.MIN_VALUE, Integer.MAX_VALUE}) {
            due.is("called, root " + i, x.called(0, i), UNKNOWN);
            due.is("signAt, root " + i, x.signAt(0, i, 0), UNKNOWN);
            due.is("place, root " + i, x.place(0, i), UNKNOWN);
        }
        for (int p : new int[] {-1, 3, Integer.MIN_VALUE, Integer.MAX_VALUE}) {
            due.is("called of " + p, x.called(p, 0), UNKNOWN);
            due.is("byName of " + p, x.byName(p, 99), UNKNOWN);
            due.is("signAt of " + p, x.signAt(p, 0, 0), UNKNOWN);
            due.is("signAt, other " + p, x.signAt(0, 0, p), UNKNOWN);
            due.is("more of " + p, x.more(p, 0), UNKNOWN);
            due.is("more, other " + p, x.more(0, p), UNKNOWN);
            due.is("place of " + p, x.place(p, 0), UNKNOWN);
        }
        due.is("0 for each x has no root", x.called(1, 0), UNKNOWN);
        due.is("nor has 7", x.called(2, 0), UNKNOWN);
        due.is("name -1", x.byName(0, -1), OUTSIDE);
        due.is("name 9", x.byName(0, 9), OUTSIDE);
    }

    private static void signAt() {
        // ROOTS of x x - 2 and of x x - x - 1, one inside, one outside
        RootSigns x = Due.of("p;p-201;p-1-11;p000;p-500");
        int[][][] signs = {{{1, 1}, {2, 0}, {1, 1}, {0, 0}}, {{0, 2}, {1, 1}, {1, 1}, {0, 0}}};
        for (int p = 0; p < 2; p++) {
            for (int q = 0; q < 4; q++) {
                for (int i = 0; i < 2; i++) {
                    due.is("sign of " + q + " at root " + i + " of " + p, x.signAt(p, i, q), signs[p][q][i]);
                }
            }
        }
        // mirrored: 0 less the ROOTS; shifted: 1 less than that
        RootSigns y = Due.of("p;m-310;s-310;p310;p410");
        due.is("3 + x at -3", y.signAt(0, 0, 2), 1);
        due.is("4 + x at -3", y.signAt(0, 0, 3), 2);
        due.is("4 + x at -4", y.signAt(1, 0, 3), 1);
        due.is("3 + x at -4", y.signAt(1, 0, 2), 0);
    }

    private static void signAtTellsApartWhatIsNear() {
        // around the square root of 2: 7/5 and 9/8 are less, 3/2 is greater
        RootSigns x = Due.of("p;p-201;p-750;p-980;p-320");
        due.is("5 x - 7", x.signAt(0, 1, 1), 2);
        due.is("8 x - 9", x.signAt(0, 1, 2), 2);
        due.is("2 x - 3", x.signAt(0, 1, 3), 0);
        due.is("at 7/5", x.signAt(1, 0, 0), 0);
        due.is("at 3/2", x.signAt(3, 0, 0), 2);
        // 2 x x - 4 and 6 - 3 x x are 0 just where x x - 2 is
        RootSigns y = Due.of("p;p-201;p-402;p60-3");
        for (int q = 0; q < 3; q++) {
            due.is("0 at both", y.signAt(0, 0, q) * 10 + y.signAt(0, 1, q), 11);
        }
    }

    private static void more() {
        // at -1 and 1: x is - +, x + 2 + +, x - 2 - -; x x - 1 is 0
        RootSigns x = Due.of("p;p-101;p010;p210;p-210");
        int[][] due4 = {{2, 2, 4, 0}, {1, 2, 3, 1}, {3, 1, 2, 1}, {3, 3, 3, 2}};
        for (int p = 0; p < 4; p++) {
            for (int q = 0; q < 4; q++) {
                due.is("more " + p + " " + q, x.more(p, q), due4[p][q]);
            }
        }
        RootSigns y = Due.of("p;p000;p101;p110;p-101");
        due.is("none of 0 for each x", y.more(0, 1), 2);
        due.is("none where it has no roots", y.more(1, 3), 2);
        due.is("0 at one, above at the other", y.more(3, 2), 3);
    }

    private static void placeAndSharers() {
        // ROOTS -2 and 2; 0 and 2; -3; none
        RootSigns x = Due.of("p;p-401;p0-21;p310;p101");
        due.is("-2", x.place(0, 0), 1);
        due.is("2", x.place(0, 1), 3);
        due.is("0", x.place(1, 0), 2);
        due.is("2 again", x.place(1, 1), 3);
        due.is("-3", x.place(2, 0), 0);
        due.is("no root", x.place(3, 0), UNKNOWN);
        int[] sharers = {4, 1, 2, 3};
        for (int k = 0; k < 4; k++) {
            due.is("sharers " + k, x.sharers(k), sharers[k]);
        }
        due.is("sharers 4", x.sharers(4), UNKNOWN);
        due.is("sharers -1", x.sharers(-1), UNKNOWN);
        due.is("no roots at all", Due.of("p;p101").sharers(0), UNKNOWN);
        due.is("no polynomials", new RootSigns().sharers(-1), STATE);
        // eight of them: + and - the square roots of 9, 8, 7 and 6
        RootSigns y = Due.of("p;p-901;p-801;p-701;p-601");
        for (int p = 0; p < 4; p++) {
            due.is("eight, lesser of " + p, y.place(p, 0), p);
            due.is("eight, greater of " + p, y.place(p, 1), 7 - p);
            due.is("eight, sharers", y.sharers(p), 1 << p);
            due.is("eight, sharers", y.sharers(7 - p), 1 << p);
        }
        due.is("not nine", y.sharers(8), UNKNOWN);
    }

    private static void sameNumberHoweverWritten() {
        // the golden ratio and its other: x x - x - 1, that times -2, x x + x - 1 mirrored, 1 3 1 mirrored and moved
        RootSigns x = Due.of("p;p-1-11;p22-2;m-111;s131");
        due.is("two unlike in all", x.line(0), 2);
        due.is("all share the lesser", x.sharers(0), 15);
        due.is("all share the greater", x.sharers(1), 15);
        for (int p = 0; p < 4; p++) {
            due.is("lesser of " + p, x.place(p, 0), 0);
            due.is("greater of " + p, x.place(p, 1), 1);
        }
        // 2/3 by 3 x - 2, by 6 x - 4, by (3 x - 2)(x - 1); 3/4 is another
        RootSigns z = Due.of("p;p-230;p-460;p2-53;p-340");
        due.is("2/3 of three", z.sharers(0), 7);
        due.is("3/4 of one", z.sharers(1), 8);
        due.is("1 of one", z.sharers(2), 4);
        // a root that is there twice, alone and beside another: (x + 1)(x + 1), x x - 1, 1 + x
        RootSigns w = Due.of("p;p121;p-101;p110;p-1-2-1");
        due.is("-1 of all", w.sharers(0), 15);
        due.is("1 of one", w.sharers(1), 2);
        due.is("no other", w.line(0), 2);
    }

    private static void nearNumbersAreToldApart() {
        RootSigns x = Due.of("p;p-201;p-750;p-1-21;p-540");
        due.is("- square root of 2", x.place(0, 0), 0);
        due.is("1 - square root of 2", x.place(2, 0), 1);
        due.is("5/4", x.place(3, 0), 2);
        due.is("7/5", x.place(1, 0), 3);
        due.is("square root of 2", x.place(0, 1), 4);
        due.is("1 + square root of 2", x.place(2, 1), 5);
    }
}
