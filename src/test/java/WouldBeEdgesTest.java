/** Promises 15 to 22, sentence by sentence: nothing there and all full, the least and the largest that is taken. */
public final class WouldBeEdgesTest {
    private static final Edges edges = new Edges();
    private static final Due due = edges.due;

    public static void main(String[] args) {
        bestNumbers();
        bestLeastAndMost();
        withoutNumbers();
        withoutBoxes();
        enoughNumbers();
        enoughLeastSet();
        readingNumbers();
        readingsEightAtMost();
        backNumbers();
        kindsNumbers();
        kindsEdges();
        widthsNumbers();
        widthsEdges();
        readingsTogether();
        readingsOfEachFont();
        readingsOfWhatWas();
        oddsNumbers();
        oddsStates();
        oddsShares();
        edges.end();
    }

    // ---- promise 15

    private static void bestNumbers() {
        edges.of("15 OUTSIDE; STATE", Edges::lived);
        int[] want = {3, 4, 1, 47};
        for (int each = 0; each < 4; each++) {
            int what = each;
            edges.still("what " + what, x -> x.best(what), want[what]);
        }
        for (int what : new int[] {-1, 4, Edges.MIN, Edges.MAX}) {
            edges.still("what " + what, x -> x.best(what), Edges.OUTSIDE);
        }
        edges.of("15 STATE: there are no FONTS", Edges::fontless);
        for (int each = 0; each < 4; each++) {
            int what = each;
            edges.still("what " + what, x -> x.best(what), Edges.STATE);
        }
        edges.still("OUTSIDE, STATE", x -> x.best(4), Edges.OUTSIDE);
        edges.still("OUTSIDE, STATE", x -> x.best(-1), Edges.OUTSIDE);
    }

    private static void best(String name, FontRuns x, int changes, int runs, int boxes, int advance) {
        due.is(name + ", CHANGES", x.best(0), changes);
        due.is(name + ", RUNS", x.best(1), runs);
        due.is(name + ", BOXES", x.best(2), boxes);
        due.is(name + ", ADVANCE", x.best(3), advance);
    }

    private static void bestLeastAndMost() {
        due.begin("15 the least and the most");
        best("nothing written", Due.withFonts(Due.FOUR), 0, 0, 0, 0);
        best("one cluster", Due.withWriting("f;A1a", 0), 0, 1, 0, 1);
        best("one box", Due.withWriting("f;A1a", 1), 0, 1, 1, 1);
        best("24 runs", Edges.full(), 23, 24, 0, 12 + 12 * 18);
        best("24 boxes", Due.withWriting("f;A1a;A2b", Edges.all(24, 2)), 0, 1, 24, 24);
        best("24 in a row", Due.withWriting("f;A1a;C9b", Edges.all(24, 1)), 0, 1, 0, 432);
        best("24 marks", Due.withWriting("f;C9p", Edges.all(24, 15)), 0, 1, 0, 18);
    }

    // ---- promise 16

    private static void withoutNumbers() {
        edges.of("16 UNKNOWN", Edges::lived);
        edges.still("0", x -> x.without(0), 3);
        edges.still("3", x -> x.without(3), 2);
        for (int f : new int[] {-1, 4, Edges.MIN, Edges.MAX}) {
            edges.still("" + f, x -> x.without(f), Edges.UNKNOWN);
        }
        edges.of("16 UNKNOWN, no FONTS", FontRuns::new);
        edges.still("0", x -> x.without(0), Edges.UNKNOWN);
        edges.of("16 NONE: there is no other one", () -> Due.withWriting("f;A1a", 0, 1));
        edges.still("0", x -> x.without(0), Edges.NONE);
        edges.still("1", x -> x.without(1), Edges.UNKNOWN);
        edges.of("16 NONE, nothing written", () -> Due.withFonts("f;A1a"));
        edges.still("0", x -> x.without(0), Edges.NONE);
        edges.of("16 one other, nothing written", () -> Due.withFonts("f;A1a;A1b"));
        edges.still("0", x -> x.without(0), 0);
        edges.still("1", x -> x.without(1), 0);
        edges.still("2", x -> x.without(2), Edges.UNKNOWN);
    }

    private static void withoutBoxes() {
        edges.of("16 a CLUSTER that it alone FITS is a BOX then", Edges::full);
        edges.still("0", x -> x.without(0), 0);
        edges.still("1", x -> x.without(1), 0);
        edges.of("16 as many, fewer and more CHANGES", () -> Due.withWriting("f;A1ab;A1a;A1b;A1c", 0, 1, 0, 1, 2));
        edges.still("more", x -> x.without(0), 4);
        edges.still("as many", x -> x.without(1), 1);
        edges.still("as many", x -> x.without(2), 1);
        edges.still("fewer", x -> x.without(3), 0);
        edges.of("16 boxes alone", () -> Due.withWriting("f;A1a;A1b", 9, 10, 11));
        edges.still("0", x -> x.without(0), 0);
        edges.of("16 the head of PREFERENCE", () -> {
            FontRuns x = Due.withWriting("f;A1ab;A1ac;A1bc", 0, 1, 2);
            x.prefer(2);
            return x;
        });
        edges.still("2", x -> x.without(2), 1);
        edges.still("1", x -> x.without(1), 1);
        due.begin("16 the most CHANGES");
        due.is("23", Due.withWriting("f;A1ab;A1a;A1b", Edges.turns(24)).without(0), 23);
    }

    // ---- promise 17

    private static void enoughNumbers() {
        edges.of("17 OUTSIDE; STATE", Edges::lived);
        edges.still("0", x -> x.enough(0), 4);
        edges.still("1", x -> x.enough(1), 15);
        for (int what : new int[] {-1, 2, Edges.MIN, Edges.MAX}) {
            edges.still("" + what, x -> x.enough(what), Edges.OUTSIDE);
        }
        edges.of("17 STATE: there are no FONTS", Edges::fontless);
        edges.still("0", x -> x.enough(0), Edges.STATE);
        edges.still("1", x -> x.enough(1), Edges.STATE);
        edges.still("OUTSIDE, STATE", x -> x.enough(2), Edges.OUTSIDE);
        edges.still("OUTSIDE, STATE", x -> x.enough(-1), Edges.OUTSIDE);
        edges.of("17 nothing written", () -> Due.withFonts(Due.FOUR));
        edges.still("0", x -> x.enough(0), 0);
        edges.still("1", x -> x.enough(1), 0);
        edges.of("17 boxes alone", () -> Due.withWriting(Due.FOUR, 10, 11));
        edges.still("0", x -> x.enough(0), 0);
        edges.still("1", x -> x.enough(1), 0);
    }

    private static void enough(String text, int[] letters, int set) {
        FontRuns x = Due.withWriting(text, letters);
        due.is("set of " + text, x.enough(1), set);
        due.is("how many of " + text, x.enough(0), Integer.bitCount(set));
        x.prefer(x.many(0) - 1);
        due.is("set of " + text + ", whatever is preferred", x.enough(1), set);
    }

    private static void enoughLeastSet() {
        due.begin("17 the fewest FONTS; of several sets the least");
        enough("f;A1a;A1a;A1a;A1a", new int[] {0}, 1);
        enough("f;A1b;A1b;A1b;A1a", new int[] {0}, 8);
        enough("f;A1a;A1b;A1c;A1abc", new int[] {0, 1, 2}, 8);
        enough("f;A1ab;A1bc;A1cd;A1ad", new int[] {0, 1, 2, 3}, 5);
        enough("f;A1ab;A1cd;A1ac;A1bd", new int[] {0, 1, 2, 3}, 3);
        enough("f;A1a;A1b;A1c;A1d", new int[] {0, 1, 2}, 7);
        enough("f;A1a;A1b;A1c;A1d", new int[] {3, 2, 1}, 14);
        enough("f;A1a;A1b;A1c;A1d", new int[] {0, 11, 3}, 9);
        enough("f;A1a;A1am;A1bm", new int[] {0, 0, 12, 1}, 6);
        enough("f;A1a", new int[] {0, 1}, 1);
    }

    // ---- promise 18

    private static void readingNumbers() {
        edges.of("18 v (0 .. 500)", Edges::lived);
        edges.answers("0", x -> x.reading(0), 2);
        edges.answers("500", x -> x.reading(500), 2);
        for (int v : new int[] {-1, 501, Edges.MIN, Edges.MAX}) {
            edges.still("" + v, x -> x.reading(v), Edges.OUTSIDE);
        }
        edges.of("18 STATE: there are no FONTS", Edges::fontless);
        edges.still("0", x -> x.reading(0), Edges.STATE);
        edges.still("STATE, OUTSIDE", x -> x.reading(501), Edges.STATE);
        edges.still("STATE, OUTSIDE", x -> x.reading(-1), Edges.STATE);
        edges.of("18 nothing written", () -> Due.withFonts(Due.FOUR));
        edges.answers("0", x -> x.reading(0), 0);
    }

    private static FontRuns eightReadings() {
        FontRuns x = Due.withWriting("f;A1a;B1b", 0, 0, 1);
        for (int n = 0; n < 8; n++) {
            x.reading(n < 7 ? 4 : 5);
        }
        return x;
    }

    private static void readingsEightAtMost() {
        edges.of("18 READINGS, 8 at most", WouldBeEdgesTest::eightReadings);
        edges.still("8", x -> x.many(3), 8);
        edges.still("a ninth", x -> x.reading(4), Edges.FULL);
        edges.still("OUTSIDE, FULL", x -> x.reading(501), Edges.OUTSIDE);
        edges.still("OUTSIDE, FULL", x -> x.reading(-1), Edges.OUTSIDE);
        due.begin("18 numbered by how many there are");
        FontRuns x = Due.withWriting("f;A1a", 0);
        for (int n = 0; n < 8; n++) {
            due.is("its number", x.reading(1), n);
            due.is("how many then", x.many(3), n + 1);
        }
        due.is("a ninth", x.reading(1), Edges.FULL);
        x.back(1);
        due.is("the eighth again", x.reading(1), 7);
        x.back(8);
        due.is("the first again", x.reading(1), 0);
        Due.told(x, "f;A1a");
        due.is("the first of a new TEXT", x.reading(1), 0);
    }

    // ---- promise 19

    private static void backNumbers() {
        edges.of("19 0 .. as many as there are", WouldBeEdgesTest::eightReadings);
        edges.still("0", x -> x.back(0), 8);
        edges.answers("1", x -> x.back(1), 7);
        edges.answers("8", x -> x.back(8), 0);
        for (int n : new int[] {-1, 9, Edges.MIN, Edges.MAX}) {
            edges.still("" + n, x -> x.back(n), Edges.OUTSIDE);
        }
        edges.of("19 of two", Edges::lived);
        edges.answers("2", x -> x.back(2), 0);
        edges.still("3", x -> x.back(3), Edges.OUTSIDE);
        edges.of("19 of none", () -> Due.withFonts(Due.FOUR));
        edges.still("0", x -> x.back(0), 0);
        edges.still("1", x -> x.back(1), Edges.OUTSIDE);
        edges.still("-1", x -> x.back(-1), Edges.OUTSIDE);
        edges.of("19 no FONTS", FontRuns::new);
        edges.still("0", x -> x.back(0), 0);
        edges.still("1", x -> x.back(1), Edges.OUTSIDE);
        due.begin("19 the last n are taken back");
        FontRuns x = eightReadings();
        due.is("with the last", x.kinds(0), 0);
        x.back(1);
        due.is("without it", x.kinds(0), 1);
        x.reading(5);
        due.is("another last", x.kinds(0), 0);
    }

    // ---- promise 20

    private static void kindsNumbers() {
        edges.of("20 UNKNOWN", Edges::lived);
        edges.still("0", x -> x.kinds(0), 0);
        edges.still("3", x -> x.kinds(3), 0);
        for (int f : new int[] {-1, 4, Edges.MIN, Edges.MAX}) {
            edges.still("" + f, x -> x.kinds(f), Edges.UNKNOWN);
        }
        edges.of("20 UNKNOWN, no FONTS", FontRuns::new);
        edges.still("0", x -> x.kinds(0), Edges.UNKNOWN);
        edges.of("20 no READINGS", () -> Due.withWriting("f;A1a;B2b;C3c", 0, 1, 2));
        for (int each = 0; each < 3; each++) {
            int f = each;
            edges.still("all, " + f, x -> x.kinds(f), 7);
        }
        edges.still("3", x -> x.kinds(3), Edges.UNKNOWN);
    }

    /** KINDS of the font told, of a WRITING of n clusters that it has, if v is read. */
    private static int kindsIf(String font, int n, int v) {
        FontRuns x = Due.withWriting("f;" + font + "a;A1b", Edges.all(n, 0));
        x.reading(v);
        return x.kinds(0);
    }

    private static void kindsEdges() {
        due.begin("20 KINDS: 0 .. 2");
        for (String font : new String[] {"A", "B", "C"}) {
            due.is("width 1, step 1", kindsIf(font + 1, 1, 1), 1);
            due.is("width 1, step 2", kindsIf(font + 1, 1, 2), 6);
            due.is("width 1, step 3", kindsIf(font + 1, 1, 3), 0);
            due.is("width 2, step 4", kindsIf(font + 2, 1, 4), 4);
            due.is("width 9, step 9", kindsIf(font + 9, 1, 9), 1);
            due.is("width 9, step 10", kindsIf(font + 9, 1, 10), 2);
            due.is("width 9, step 18", kindsIf(font + 9, 1, 18), 4);
            due.is("width 9, step 0", kindsIf(font + 9, 1, 0), 0);
            due.is("24 of them, 216", kindsIf(font + 9, 24, 216), 1);
            due.is("24 of them, 240", kindsIf(font + 9, 24, 240), 2);
            due.is("24 of them, 432", kindsIf(font + 9, 24, 432), 4);
            due.is("24 of them, 500", kindsIf(font + 9, 24, 500), 0);
            due.is("none of them, 0", kindsIf(font + 9, 0, 0), 7);
            due.is("none of them, 1", kindsIf(font + 9, 0, 1), 0);
        }
    }

    // ---- promise 21

    private static void widthsNumbers() {
        edges.of("21 UNKNOWN", Edges::lived);
        edges.still("0", x -> x.widths(0), 0);
        edges.still("3", x -> x.widths(3), 0);
        for (int f : new int[] {-1, 4, Edges.MIN, Edges.MAX}) {
            edges.still("" + f, x -> x.widths(f), Edges.UNKNOWN);
        }
        edges.of("21 UNKNOWN, no FONTS", FontRuns::new);
        edges.still("0", x -> x.widths(0), Edges.UNKNOWN);
        edges.of("21 no READINGS", () -> Due.withWriting("f;A1a;B2b;C3c", 0, 1, 2));
        for (int each = 0; each < 3; each++) {
            int f = each;
            edges.still("all, " + f, x -> x.widths(f), 1022);
        }
        edges.still("3", x -> x.widths(3), Edges.UNKNOWN);
    }

    private static int widthsIf(String font, int n, int v) {
        FontRuns x = Due.withWriting("f;" + font + "a;A1b", Edges.all(n, 0));
        x.reading(v);
        return x.widths(0);
    }

    private static void widthsEdges() {
        due.begin("21 WIDTHS: 1 .. 9");
        for (int v = 0; v <= 20; v++) {
            due.is("plain, " + v, widthsIf("A5", 1, v), v >= 1 && v <= 9 ? 1 << v : 0);
            due.is("broad, " + v, widthsIf("B5", 1, v), v >= 2 && v <= 10 ? 1 << v - 1 : 0);
            due.is("double, " + v, widthsIf("C5", 1, v), v >= 2 && v <= 18 && v % 2 == 0 ? 1 << v / 2 : 0);
        }
        due.is("24 plain ones, 24", widthsIf("A5", 24, 24), 1 << 1);
        due.is("24 plain ones, 216", widthsIf("A5", 24, 216), 1 << 9);
        due.is("24 plain ones, 215", widthsIf("A5", 24, 215), 0);
        due.is("24 double ones, 432", widthsIf("C5", 24, 432), 1 << 9);
        due.is("24 double ones, 500", widthsIf("C5", 24, 500), 0);
        due.is("none of them, 0", widthsIf("C5", 0, 0), 1022);
        due.is("none of them, 1", widthsIf("C5", 0, 1), 0);
    }

    private static void readingsTogether() {
        due.begin("20, 21 by which all READINGS are so");
        FontRuns x = Due.withWriting("f;A1a;B3b;C2c", 0);
        x.reading(2);
        due.is("of one", x.kinds(0), 6);
        Due.written(x, 1);
        x.reading(6);
        due.is("of two, the same says", x.kinds(0), 6);
        due.is("of two, the other is not so by itself", x.kinds(1), 0);
        due.is("width of one", x.widths(0), 1 << 2);
        due.is("a font that neither has", x.widths(2), 0);
        Due.written(x, 1);
        x.reading(11);
        due.is("of three, one gainsays", x.kinds(0), 0);
        x.back(1);
        x.reading(10);
        due.is("of three", x.kinds(0), 6);
        x.width(0, 2);
        due.is("now all are so, as it is", x.kinds(0), 1);
        due.is("now all are so, as it is", x.kinds(1), 2);
        due.is("and tell nothing of a font that none has", x.kinds(2), 7);
        due.is("and tell nothing of a font that none has", x.widths(2), 1022);
    }

    private static void readingsOfEachFont() {
        due.begin("20, 21 of each FONT");
        FontRuns x = Due.withWriting("f;A2a;B3b;C4c;B5d", 0, 1, 1, 2, 2, 2, 3, 3, 3, 3);
        x.reading(x.best(3));
        int[] kinds = {1, 2, 4, 2}, widths = {2, 3, 4, 5};
        for (int f = 0; f < 4; f++) {
            due.is("kinds of " + f, x.kinds(f), kinds[f]);
            due.is("widths of " + f, x.widths(f), 1 << widths[f]);
        }
        x.back(1);
        x.reading(x.best(3) + 4);
        int[] more = {1 << 6, 1 << 5, 0, 1 << 6};
        for (int f = 0; f < 4; f++) {
            due.is("four more, widths of " + f, x.widths(f), more[f]);
        }
    }

    private static void readingsOfWhatWas() {
        due.begin("20, 21 the WRITING as it is now");
        FontRuns x = Due.withWriting("f;A4ab;B2bc", 1, 1, 1);
        x.reading(12);
        x.erase(3);
        due.is("erased", x.kinds(0), 1);
        Due.written(x, 2, 2);
        due.is("written", x.widths(0), 1 << 4);
        due.is("written", x.widths(1), 1022);
        x.prefer(1);
        due.is("preferred", x.widths(0), 1 << 4);
        due.is("preferred", x.widths(1), 1022);
    }

    // ---- promise 22

    private static void oddsNumbers() {
        edges.of("22 v (0 .. 24; which 0, 1)", Edges::lived);
        edges.still("0, upper", x -> x.odds(0, 0), 0);
        edges.still("0, lower", x -> x.odds(0, 1), 1);
        edges.still("24, upper", x -> x.odds(24, 0), 0);
        edges.still("24, lower", x -> x.odds(24, 1), 1);
        edges.still("3, upper", x -> x.odds(3, 0), 3);
        edges.still("3, lower", x -> x.odds(3, 1), 8);
        for (int v : new int[] {-1, 25, Edges.MIN, Edges.MAX}) {
            edges.still("v " + v, x -> x.odds(v, 0), Edges.LOST);
            edges.still("v " + v, x -> x.odds(v, 1), Edges.LOST);
        }
        for (int which : new int[] {-1, 2, Edges.MIN, Edges.MAX}) {
            edges.still("which " + which, x -> x.odds(0, which), Edges.LOST);
        }
    }

    private static void oddsStates() {
        edges.of("22 STATE: there are no FONTS", Edges::fontless);
        edges.still("upper", x -> x.odds(0, 0), Edges.LOST);
        edges.still("lower", x -> x.odds(0, 1), Edges.LOST);
        edges.still("OUTSIDE, STATE", x -> x.odds(25, 2), Edges.LOST);
        edges.of("22 STATE: the WRITING has 24 LETTERS", Edges::full);
        edges.still("upper", x -> x.odds(23, 0), Edges.LOST);
        edges.still("lower", x -> x.odds(23, 1), Edges.LOST);
        edges.of("22 the WRITING has 23 LETTERS", () -> Due.withWriting("f;A1a;C9b", Edges.turns(23)));
        edges.still("21, upper: a mark makes a box of the last", x -> x.odds(21, 0), 1);
        edges.still("21, lower", x -> x.odds(21, 1), 4);
        edges.still("22, upper", x -> x.odds(22, 0), 11);
        edges.still("22, lower", x -> x.odds(22, 1), 16);
        edges.still("23, upper", x -> x.odds(23, 0), 1);
        edges.still("23, lower", x -> x.odds(23, 1), 16);
        edges.of("22 nothing written", () -> Due.withFonts(Due.FOUR));
        edges.still("0, upper", x -> x.odds(0, 0), 1);
        edges.still("0, lower", x -> x.odds(0, 1), 1);
        edges.still("1, upper", x -> x.odds(1, 0), 0);
        edges.still("1, lower", x -> x.odds(1, 1), 1);
    }

    /** Shares of no change behind one a, if the second font has so many bases that the first has not. */
    private static void oddsShares() {
        due.begin("22 in least terms");
        int[][] shares = {{15, 16}, {7, 8}, {13, 16}, {3, 4}, {11, 16}, {5, 8}, {9, 16}, {1, 2}};
        for (int n = 1; n <= 8; n++) {
            FontRuns x = Due.withWriting("f;A1a;A1" + "bcdefghi".substring(0, n), 0);
            due.is(n + " that change, upper", x.odds(0, 0), shares[n - 1][0]);
            due.is(n + " that change, lower", x.odds(0, 1), shares[n - 1][1]);
            due.is("the other share, upper", x.odds(1, 0), shares[n - 1][1] - shares[n - 1][0]);
            due.is("the other share, lower", x.odds(1, 1), shares[n - 1][1]);
        }
        due.begin("22 a MARK comes to the CLUSTER ahead");
        FontRuns x = Due.withWriting("f;A1ab;A1bm;A1b", 0, 1);
        due.is("no change, upper", x.odds(0, 0), 15);
        due.is("one change, upper", x.odds(1, 0), 1);
        due.is("one change, lower", x.odds(1, 1), 16);
    }
}
