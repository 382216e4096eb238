/** Counts the answers that are not as due, and makes objects to ask. */
final class Due {
    private int asked = 0;
    private int wrong = 0;

    void is(String call, long got, long want) {
        asked++;
        if (got != want) {
            wrong++;
            System.out.println(call + " answered " + got + ", due is " + want);
        }
    }

    void isTrue(String what, boolean holds) {
        is(what, holds ? 1 : 0, 1);
    }

    /** Ends the program, with exit code 1 if an answer was not as due. */
    void end() {
        System.out.println(asked + " answers, " + wrong + " not as due");
        System.exit(wrong == 0 && asked > 0 ? 0 : 1);
    }

    /** A SHEET gets a new row of a LANE with these numbers. */
    static void write(RootSigns x, int sheet, int lane, int... numbers) {
        x.sheet(sheet, lane, numbers.length);
        for (int i = 0; i < numbers.length; i++) {
            x.put(sheet, i, numbers[i]);
        }
    }

    static int[] codes(String text) {
        int[] codes = new int[text.length()];
        for (int i = 0; i < codes.length; i++) {
            codes[i] = text.charAt(i);
        }
        return codes;
    }

    /** Takes a TEXT by way of SHEET 3, which has nothing afterwards. */
    static int take(RootSigns x, String text) {
        write(x, 3, 0, codes(text));
        int answer = x.polynomials(3, 0, 0, text.length());
        x.lose(3);
        return answer;
    }

    static RootSigns of(String text) {
        RootSigns x = new RootSigns();
        take(x, text);
        return x;
    }
}
