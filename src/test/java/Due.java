/** Counts answers that are not the ones due, and puts rows and texts into sheets. */
final class Due {
    static final String FOUR = "f;A3abcmn;B2cdeno;C4aefmp;A9ghij";
    /** A writing of nine clusters in those four fonts, the eighth of them a box. */
    static final int[] MIXED = {0, 12, 2, 13, 1, 3, 4, 14, 5, 0, 15, 10, 6};

    private int wrong;
    private String part = "";

    void begin(String name) {
        part = name;
    }

    void is(String call, long got, long want) {
        if (got != want) {
            wrong++;
            System.out.println(part + ": " + call + " answered " + got + ", due is " + want);
        }
    }

    void same(String what, String got, String want) {
        if (!got.equals(want)) {
            wrong++;
            System.out.println(part + ": " + what + " does not hold:\n  " + got + "\n  " + want);
        }
    }

    void end() {
        System.out.println(wrong == 0 ? "all answers are as due" : wrong + " answers are not as due");
        if (wrong != 0) {
            System.exit(1);
        }
    }

    static void row(FontRuns x, int sheet, int lane, int... values) {
        x.sheet(sheet, lane, values.length);
        for (int i = 0; i < values.length; i++) {
            x.put(sheet, i, values[i]);
        }
    }

    /** Tells the text through sheet 0. */
    static int told(FontRuns x, String text) {
        row(x, 0, 0, text.chars().toArray());
        return x.fonts(0, 0, 0, text.length());
    }

    /** Writes the letters through sheet 1. */
    static int written(FontRuns x, int... letters) {
        row(x, 1, 2, letters);
        return x.write(1, 2, 0, letters.length);
    }

    static FontRuns withFonts(String text) {
        FontRuns x = new FontRuns();
        told(x, text);
        return x;
    }

    static FontRuns withWriting(String text, int... letters) {
        FontRuns x = withFonts(text);
        written(x, letters);
        return x;
    }

    /** What a day of these pairs, told through sheet 2, answers. */
    static int dayOf(FontRuns x, int what, int... pairs) {
        row(x, 2, 1, pairs);
        return x.day(2, 1, 0, pairs.length / 2, what);
    }
}
