import java.util.function.ToLongFunction;

/** Promises 23 to 33, sentence by sentence: rows, cells and bodies that are just there and just not. */
public final class SheetEdgesTest {
    private static final Edges edges = new Edges();
    private static final Due due = edges.due;

    public static void main(String[] args) {
        sheetNumbers();
        sheetOrder();
        sheetIsNew();
        loseNumbers();
        putNumbers();
        putCutsToTheLane();
        cellNumbers();
        cellFaults();
        copySheets();
        copyCells();
        copyOrder();
        copyOntoItself();
        tellNumbers();
        tellLeastAndMost();
        sampleNumbers();
        traceWraps();
        asNumbers();
        asKinds();
        faultStays();
        faultIsTakenBack();
        faultIsTheLatest();
        manyNumbers();
        edges.end();
    }

    // ---- promise 23

    private static void sheetNumbers() {
        edges.ofFaulting("23 UNKNOWN; OUTSIDE: lane, n above 60; SIZE", Edges::lived);
        edges.answers("sheet 0", x -> x.sheet(0, 0, 5), 1);
        edges.answers("sheet 3", x -> x.sheet(3, 0, 5), 1);
        edges.answers("lane 2", x -> x.sheet(0, 2, 5), 1);
        edges.answers("none", x -> x.sheet(0, 0, 0), 1);
        edges.answers("sixty", x -> x.sheet(0, 0, 60), 1);
        for (int k : new int[] {-1, 4, Edges.MIN, Edges.MAX}) {
            edges.still("sheet " + k, x -> x.sheet(k, 0, 5), Edges.UNKNOWN);
        }
        for (int lane : new int[] {-1, 3, Edges.MIN, Edges.MAX}) {
            edges.still("lane " + lane, x -> x.sheet(0, lane, 5), Edges.OUTSIDE);
        }
        for (int n : new int[] {61, Edges.MAX}) {
            edges.still("n " + n, x -> x.sheet(0, 0, n), Edges.OUTSIDE);
        }
        for (int n : new int[] {-1, -60, Edges.MIN}) {
            edges.faults("n " + n, x -> x.sheet(0, 0, n), Edges.SIZE);
            edges.faults("n " + n + ", nothing there", x -> x.sheet(3, 0, n), Edges.SIZE);
        }
    }

    private static void sheetOrder() {
        edges.ofFaulting("23 the first that is told", Edges::lived);
        edges.still("UNKNOWN, OUTSIDE lane", x -> x.sheet(4, 3, 0), Edges.UNKNOWN);
        edges.still("UNKNOWN, OUTSIDE n", x -> x.sheet(-1, 0, 61), Edges.UNKNOWN);
        edges.still("UNKNOWN, SIZE", x -> x.sheet(-1, 0, -1), Edges.UNKNOWN);
        edges.still("OUTSIDE lane, SIZE", x -> x.sheet(0, 3, -1), Edges.OUTSIDE);
        edges.still("OUTSIDE lane below 0, SIZE", x -> x.sheet(0, -1, -1), Edges.OUTSIDE);
    }

    private static void sheetIsNew() {
        due.begin("23 a row of 0 .. 60 numbers (0 at first)");
        for (int lane = 0; lane < 3; lane++) {
            FontRuns x = new FontRuns();
            x.sheet(2, lane, 60);
            for (int i = 0; i < 60; i++) {
                due.is("at first", x.cell(2, i, lane), 0);
                x.put(2, i, i + 1);
            }
            due.is("no sixty-first", x.put(2, 60, 1), -13);
            x.sheet(2, lane, 60);
            for (int i = 0; i < 60; i++) {
                due.is("anew", x.cell(2, i, lane), 0);
            }
        }
        due.begin("23 a new row in place of another");
        FontRuns x = new FontRuns();
        Due.row(x, 1, 2, 7, 8, 9);
        x.sheet(1, 0, 2);
        due.is("another lane", x.cell(1, 0, 0), 0);
        due.is("shorter", x.put(1, 2, 1), -13);
        x.sheet(1, 0, 3);
        due.is("longer again", x.cell(1, 2, 0), 0);
        x.sheet(1, 0, 0);
        due.is("none", x.put(1, 0, 1), -13);
        Due.row(x, 1, 2, 7, 8, 9);
        x.lose(1);
        x.sheet(1, 2, 3);
        due.is("lost ahead", x.cell(1, 1, 2), 0);
    }

    // ---- promise 24

    private static void loseNumbers() {
        edges.of("24 UNKNOWN", Edges::lived);
        edges.answers("0", x -> x.lose(0), 1);
        edges.answers("2", x -> x.lose(2), 1);
        edges.still("3", x -> x.lose(3), 0);
        for (int k : new int[] {-1, 4, Edges.MIN, Edges.MAX}) {
            edges.still("" + k, x -> x.lose(k), Edges.UNKNOWN);
        }
        due.begin("24 a SHEET has nothing");
        FontRuns x = Edges.lived();
        x.sheet(3, 1, 0);
        for (int k = 0; k < 4; k++) {
            due.is("had a row", x.lose(k), 1);
            due.is("had nothing", x.lose(k), 0);
            due.is("put", x.put(k, 0, 0), -11);
            due.is("copy", x.copy(k, 0, k, 0, 0), -11);
        }
        due.is("fonts stay", x.many(0), 4);
        due.is("letters stay", x.many(1), 13);
    }

    // ---- promise 25

    private static void putNumbers() {
        edges.ofFaulting("25 UNKNOWN; NULL; INDEX", SheetEdgesTest::rows);
        edges.answers("the first", x -> x.put(0, 0, 9), 1);
        edges.answers("the last", x -> x.put(0, 2, 9), 1);
        edges.answers("the sixtieth", x -> x.put(2, 59, 9), 1);
        for (int k : new int[] {-1, 4, Edges.MIN, Edges.MAX}) {
            edges.still("sheet " + k, x -> x.put(k, 0, 9), Edges.UNKNOWN);
            edges.still("UNKNOWN, INDEX", x -> x.put(k, -1, 9), Edges.UNKNOWN);
        }
        for (int i : new int[] {-1, 0, Edges.MIN, Edges.MAX}) {
            edges.faults("nothing, " + i, x -> x.put(3, i, 9), Edges.NULL);
        }
        for (int i : new int[] {-1, 3, 60, Edges.MIN, Edges.MAX}) {
            edges.faults("of three, " + i, x -> x.put(0, i, 9), Edges.INDEX);
        }
        edges.faults("of none, 0", x -> x.put(1, 0, 9), Edges.INDEX);
        edges.faults("of none, -1", x -> x.put(1, -1, 9), Edges.INDEX);
        edges.faults("of sixty, 60", x -> x.put(2, 60, 9), Edges.INDEX);
        edges.faults("of sixty, -1", x -> x.put(2, -1, 9), Edges.INDEX);
    }

    /** Three bytes, no shorts, sixty ints, nothing. */
    private static FontRuns rows() {
        FontRuns x = new FontRuns();
        Due.row(x, 0, 0, 5, -6, 7);
        x.sheet(1, 1, 0);
        x.sheet(2, 2, 60);
        x.put(2, 59, -70000);
        return x;
    }

    private static void cut(int lane, int v, int want) {
        FontRuns x = new FontRuns();
        x.sheet(0, lane, 3);
        due.is("put", x.put(0, 1, v), 1);
        due.is(v + " in lane " + lane, x.cell(0, 1, lane), want);
        due.is("the cell ahead", x.cell(0, 0, lane), 0);
        due.is("the cell behind", x.cell(0, 2, lane), 0);
    }

    private static void putCutsToTheLane() {
        due.begin("25 what comes to a cell is cut to its LANE");
        int[][] bytes = {{127, 127}, {128, -128}, {-128, -128}, {-129, 127}, {255, -1}, {256, 0}, {257, 1}, {-256, 0},
            {32767, -1}, {65536, 0}, {Edges.MAX, -1}, {Edges.MIN, 0}};
        for (int[] each : bytes) {
            cut(0, each[0], each[1]);
        }
        int[][] shorts = {{127, 127}, {128, 128}, {-129, -129}, {32767, 32767}, {32768, -32768}, {-32768, -32768},
            {-32769, 32767}, {65535, -1}, {65536, 0}, {65537, 1}, {-65536, 0}, {Edges.MAX, -1}, {Edges.MIN, 0}};
        for (int[] each : shorts) {
            cut(1, each[0], each[1]);
        }
        for (int v : new int[] {127, 128, 32768, -32769, 65536, Edges.MAX, Edges.MIN}) {
            cut(2, v, v);
        }
    }

    // ---- promise 26

    private static void cellNumbers() {
        edges.ofFaulting("26 cell i, taken as a row of a LANE", SheetEdgesTest::rows);
        edges.still("the first", x -> x.cell(0, 0, 0), 5);
        edges.still("the last", x -> x.cell(0, 2, 0), 7);
        edges.still("below 0", x -> x.cell(0, 1, 0), -6);
        edges.still("the sixtieth", x -> x.cell(2, 59, 2), -70000);
        for (int k : new int[] {-1, 4, Edges.MIN, Edges.MAX}) {
            edges.still("sheet " + k, x -> x.cell(k, 0, 0), Edges.LOST);
            edges.still("UNKNOWN, INDEX", x -> x.cell(k, -1, 0), Edges.LOST);
            edges.still("UNKNOWN, OUTSIDE", x -> x.cell(k, 0, 3), Edges.LOST);
        }
        for (int lane : new int[] {-1, 3, Edges.MIN, Edges.MAX}) {
            edges.still("lane " + lane, x -> x.cell(0, 0, lane), Edges.LOST);
            edges.still("OUTSIDE, NULL", x -> x.cell(3, 0, lane), Edges.LOST);
            edges.still("OUTSIDE, INDEX", x -> x.cell(0, 3, lane), Edges.LOST);
        }
    }

    private static void cellFaults() {
        edges.ofFaulting("26 CAST (nothing is no CAST), NULL, INDEX", SheetEdgesTest::rows);
        for (int each = 0; each < 12; each++) {
            int k = each / 3, lane = each % 3;
            if (k != lane) {
                int fault = k == 3 ? Edges.NULL : Edges.CAST;
                edges.lost("row of " + k + " as of " + lane, x -> x.cell(k, 0, lane), fault);
                edges.lost("and INDEX", x -> x.cell(k, -1, lane), fault);
            }
        }
        for (int i : new int[] {-1, 3, 60, Edges.MIN, Edges.MAX}) {
            edges.lost("of three, " + i, x -> x.cell(0, i, 0), Edges.INDEX);
        }
        edges.lost("of none, 0", x -> x.cell(1, 0, 1), Edges.INDEX);
        edges.lost("of sixty, 60", x -> x.cell(2, 60, 2), Edges.INDEX);
        edges.lost("of sixty, -1", x -> x.cell(2, -1, 2), Edges.INDEX);
    }

    // ---- promise 27

    /** Five shorts, three shorts, no shorts, nothing. */
    private static FontRuns shorts() {
        FontRuns x = new FontRuns();
        Due.row(x, 0, 1, 1, 2, 3, 4, 5);
        Due.row(x, 1, 1, 7, 8, 9);
        x.sheet(2, 1, 0);
        return x;
    }

    private static void copySheets() {
        edges.ofFaulting("27 UNKNOWN", SheetEdgesTest::shorts);
        for (int k : new int[] {-1, 4, Edges.MIN, Edges.MAX}) {
            edges.still("the first, " + k, x -> x.copy(k, 0, 0, 0, 1), Edges.UNKNOWN);
            edges.still("the other, " + k, x -> x.copy(0, 0, k, 0, 1), Edges.UNKNOWN);
            edges.still("UNKNOWN other, NULL first", x -> x.copy(3, 0, k, 0, 1), Edges.UNKNOWN);
            edges.still("UNKNOWN first, NULL other", x -> x.copy(k, 0, 3, 0, 1), Edges.UNKNOWN);
            edges.still("UNKNOWN, INDEX", x -> x.copy(0, -1, k, -1, -1), Edges.UNKNOWN);
        }
        edges.ofFaulting("27 NULL (the first, the other)", SheetEdgesTest::shorts);
        edges.faults("the first", x -> x.copy(3, 0, 0, 0, 0), Edges.NULL);
        edges.faults("the other", x -> x.copy(0, 0, 3, 0, 0), Edges.NULL);
        edges.faults("both", x -> x.copy(3, 0, 3, 0, 0), Edges.NULL);
        edges.ofFaulting("27 CAST (unlike LANES)", SheetEdgesTest::rows);
        edges.faults("bytes, shorts", x -> x.copy(0, 0, 1, 0, 0), Edges.CAST);
        edges.faults("shorts, bytes", x -> x.copy(1, 0, 0, 0, 0), Edges.CAST);
        edges.faults("bytes, ints", x -> x.copy(0, 0, 2, 0, 3), Edges.CAST);
        edges.faults("ints, bytes", x -> x.copy(2, 0, 0, 0, 3), Edges.CAST);
        edges.faults("shorts, ints", x -> x.copy(1, 0, 2, 0, 0), Edges.CAST);
        edges.faults("ints, shorts", x -> x.copy(2, 0, 1, 0, 0), Edges.CAST);
    }

    private static void copyCells() {
        edges.ofFaulting("27 n cells from i on go from j on", SheetEdgesTest::shorts);
        edges.answers("all that the other takes", x -> x.copy(0, 0, 1, 0, 3), 3);
        edges.answers("all that there are", x -> x.copy(1, 0, 0, 2, 3), 3);
        edges.answers("the last to the last", x -> x.copy(0, 4, 1, 2, 1), 1);
        edges.still("none", x -> x.copy(0, 0, 1, 0, 0), 0);
        edges.still("none from the end on", x -> x.copy(0, 5, 1, 0, 0), 0);
        edges.still("none to the end", x -> x.copy(0, 0, 1, 3, 0), 0);
        edges.still("none of a row of none", x -> x.copy(2, 0, 1, 0, 0), 0);
        edges.still("none to a row of none", x -> x.copy(0, 0, 2, 0, 0), 0);
        edges.ofFaulting("27 INDEX: i, j, n below 0 or beyond", SheetEdgesTest::shorts);
        edges.faults("i -1", x -> x.copy(0, -1, 1, 0, 0), Edges.INDEX);
        edges.faults("j -1", x -> x.copy(0, 0, 1, -1, 0), Edges.INDEX);
        edges.faults("n -1", x -> x.copy(0, 0, 1, 0, -1), Edges.INDEX);
        edges.faults("n -1 at the end", x -> x.copy(0, 5, 1, 3, -1), Edges.INDEX);
        edges.faults("i 6", x -> x.copy(0, 6, 1, 0, 0), Edges.INDEX);
        edges.faults("j 4", x -> x.copy(0, 0, 1, 4, 0), Edges.INDEX);
        edges.faults("one beyond the first", x -> x.copy(1, 1, 0, 0, 3), Edges.INDEX);
        edges.faults("one beyond the other", x -> x.copy(0, 0, 1, 1, 3), Edges.INDEX);
        edges.faults("one of a row of none", x -> x.copy(2, 0, 0, 0, 1), Edges.INDEX);
        edges.faults("one to a row of none", x -> x.copy(0, 0, 2, 0, 1), Edges.INDEX);
        edges.faults("n the most", x -> x.copy(0, 0, 1, 0, Edges.MAX), Edges.INDEX);
        edges.faults("n the most, sums wrap", x -> x.copy(0, 5, 1, 3, Edges.MAX), Edges.INDEX);
        edges.faults("n the least", x -> x.copy(0, 0, 1, 0, Edges.MIN), Edges.INDEX);
        edges.faults("i the most", x -> x.copy(0, Edges.MAX, 1, 0, 1), Edges.INDEX);
        edges.faults("i the least", x -> x.copy(0, Edges.MIN, 1, 0, 0), Edges.INDEX);
        edges.faults("j the most", x -> x.copy(0, 0, 1, Edges.MAX, 1), Edges.INDEX);
        edges.faults("j the least", x -> x.copy(0, 0, 1, Edges.MIN, 0), Edges.INDEX);
    }

    private static void copyOrder() {
        edges.ofFaulting("27 the first that is told", SheetEdgesTest::rows);
        edges.faults("NULL first, INDEX", x -> x.copy(3, -1, 0, -1, -1), Edges.NULL);
        edges.faults("NULL other, INDEX", x -> x.copy(0, -1, 3, -1, -1), Edges.NULL);
        edges.faults("CAST, INDEX i", x -> x.copy(0, -1, 2, 0, 0), Edges.CAST);
        edges.faults("CAST, INDEX j", x -> x.copy(0, 0, 2, 61, 0), Edges.CAST);
        edges.faults("CAST, INDEX n", x -> x.copy(0, 0, 2, 0, -1), Edges.CAST);
    }

    private static void cells(String name, FontRuns x, int k, int... want) {
        for (int i = 0; i < want.length; i++) {
            due.is(name + ", cell " + i, x.cell(k, i, 1), want[i]);
        }
        due.is(name + ", none behind", x.cell(k, want.length, 1), Edges.LOST);
    }

    private static void copyOntoItself() {
        due.begin("27 as they were");
        FontRuns x = shorts();
        x.copy(0, 0, 0, 1, 4);
        cells("upwards", x, 0, 1, 1, 2, 3, 4);
        x = shorts();
        x.copy(0, 1, 0, 0, 4);
        cells("downwards", x, 0, 2, 3, 4, 5, 5);
        x = shorts();
        x.copy(0, 0, 0, 0, 5);
        cells("in place", x, 0, 1, 2, 3, 4, 5);
        x = shorts();
        x.copy(0, 1, 1, 0, 3);
        cells("to another", x, 1, 2, 3, 4);
        cells("from where they stay", x, 0, 1, 2, 3, 4, 5);
        x.put(0, 1, 99);
        cells("and are its own", x, 1, 2, 3, 4);
    }

    // ---- promises 28, 29, 31

    private static void tellNumbers() {
        edges.of("28 UNKNOWN", Edges::lived);
        edges.answers("0", x -> x.tell(0), 3);
        edges.answers("3", x -> x.tell(3), 8);
        for (int f : new int[] {-1, 4, Edges.MIN, Edges.MAX}) {
            edges.still("" + f, x -> x.tell(f), Edges.UNKNOWN);
        }
        edges.of("28 UNKNOWN, of one FONT", () -> Due.withFonts("f;A1a"));
        edges.still("1", x -> x.tell(1), Edges.UNKNOWN);
        edges.of("28 UNKNOWN, no FONTS", FontRuns::new);
        edges.still("0", x -> x.tell(0), Edges.UNKNOWN);
    }

    private static void tellLeastAndMost() {
        due.begin("28 TELLING, 31 TRACE");
        int[] traces = {1, 2 * 31 + 1, ((3 * 31 + 2) * 31 + 1) * 31 + 1};
        for (int w = 1; w <= 9; w++) {
            int[] want = {w, w + 100, 2 * w + 100};
            for (int kind = 0; kind < 3; kind++) {
                FontRuns x = Due.withFonts("f;" + "ABC".charAt(kind) + w + "a");
                due.is("kind " + kind + ", width " + w, x.tell(0), want[kind]);
                due.is("its bodies", x.trace(), traces[kind]);
            }
        }
    }

    private static void sampleNumbers() {
        edges.of("29 UNKNOWN", Edges::lived);
        edges.answers("0", x -> x.sample(0), 5);
        edges.answers("3", x -> x.sample(3), 4);
        for (int f : new int[] {-1, 4, Edges.MIN, Edges.MAX}) {
            edges.still("" + f, x -> x.sample(f), Edges.UNKNOWN);
        }
        edges.of("29 UNKNOWN, of one FONT", () -> Due.withFonts("f;A1a"));
        edges.still("1", x -> x.sample(1), Edges.UNKNOWN);
        edges.of("29 UNKNOWN, no FONTS", FontRuns::new);
        edges.still("0", x -> x.sample(0), Edges.UNKNOWN);
        due.begin("29 how many LETTERS it HAS; 50");
        for (int n = 1; n <= 8; n++) {
            for (int kind = 0; kind < 3; kind++) {
                FontRuns x = Due.withFonts("f;" + "ABC".charAt(kind) + "9" + "ponmlkji".substring(0, n));
                due.is("kind " + kind + ", " + n, x.sample(0), kind == 2 ? 50 : n);
                due.is("its body", x.trace(), kind == 2 ? 5 : 4);
            }
        }
    }

    private static void traceWraps() {
        due.begin("31 TRACE wraps");
        FontRuns x = Due.withFonts(Due.FOUR);
        java.math.BigInteger all = java.math.BigInteger.ZERO;
        int[][] told = {{1}, {2, 1}, {3, 2, 1, 1}, {1}};
        int[] sampled = {4, 4, 5, 4};
        for (int n = 0; n < 40; n++) {
            int f = n * 3 % 4;
            x.tell(f);
            x.sample(f);
            x.tell(4);
            x.sample(-1);
            for (int body : told[f]) {
                all = all.multiply(java.math.BigInteger.valueOf(31)).add(java.math.BigInteger.valueOf(body));
            }
            all = all.multiply(java.math.BigInteger.valueOf(31)).add(java.math.BigInteger.valueOf(sampled[f]));
            due.is("behind " + n, x.trace(), all.intValue());
        }
        int trace = x.trace();
        Due.told(x, "f;A1a");
        due.is("through another TEXT", x.trace(), trace);
    }

    // ---- promise 30

    private static void asNumbers() {
        edges.ofFaulting("30 UNKNOWN; OUTSIDE; CAST", Edges::lived);
        edges.still("font 0", x -> x.as(0, 0), 1);
        edges.still("font 3", x -> x.as(3, 0), 1);
        for (int f : new int[] {-1, 4, Edges.MIN, Edges.MAX}) {
            edges.still("font " + f, x -> x.as(f, 0), Edges.UNKNOWN);
            edges.still("UNKNOWN, OUTSIDE", x -> x.as(f, 3), Edges.UNKNOWN);
            edges.still("UNKNOWN, OUTSIDE", x -> x.as(f, -1), Edges.UNKNOWN);
        }
        for (int kind : new int[] {-1, 3, Edges.MIN, Edges.MAX}) {
            edges.still("kind " + kind, x -> x.as(0, kind), Edges.OUTSIDE);
            edges.still("kind " + kind + " of a DOUBLE one", x -> x.as(2, kind), Edges.OUTSIDE);
        }
        edges.ofFaulting("30 UNKNOWN, no FONTS", FontRuns::new);
        edges.still("font 0, kind 3", x -> x.as(0, 3), Edges.UNKNOWN);
    }

    private static void asKinds() {
        edges.ofFaulting("30 each is a PLAIN one, too; a DOUBLE one is a BROAD one", Edges::lived);
        for (int each = 0; each < 9; each++) {
            int f = each / 3, kind = each % 3;
            if (kind <= f) {
                edges.still(f + " as " + kind, x -> x.as(f, kind), 1);
            } else {
                edges.faults(f + " as " + kind, x -> x.as(f, kind), Edges.CAST);
            }
        }
    }

    // ---- promise 32

    private static void stays(String name, ToLongFunction<FontRuns> call) {
        FontRuns x = Edges.lived();
        for (int fault = 0; fault <= 4; fault++) {
            come(x, fault);
            call.applyAsLong(x);
            due.is(name + " leaves " + fault, x.fault(), fault);
        }
    }

    /** Brings fault() to be so, with calls that change nothing. */
    private static void come(FontRuns x, int fault) {
        switch (fault) {
            case 0: x.cell(0, 0, 0); break;
            case 1: x.put(3, 0, 0); break;
            case 2: x.cell(0, 0, 1); break;
            case 3: x.put(0, -1, 0); break;
            default: x.sheet(0, 0, -1); break;
        }
        due.is("fault " + fault + " is there", x.fault(), fault);
    }

    private static void faultStays() {
        due.begin("32 of the latest call that names one: others leave it");
        for (int v : new int[] {0, 1, -1, 99}) {
            stays("ofFont", x -> x.ofFont(v, v));
            stays("width", x -> x.width(v, 5));
            stays("width", x -> x.width(0, v));
            stays("erase", x -> x.erase(v));
            stays("letter", x -> x.letter(v));
            stays("ofCluster", x -> x.ofCluster(v, v));
            stays("ofRun", x -> x.ofRun(v, v));
            stays("prefer", x -> x.prefer(v));
            stays("latest", x -> x.latest(v));
            stays("best", x -> x.best(v));
            stays("without", x -> x.without(v));
            stays("enough", x -> x.enough(v));
            stays("reading", x -> x.reading(v));
            stays("back", x -> x.back(v));
            stays("kinds", x -> x.kinds(v));
            stays("widths", x -> x.widths(v));
            stays("odds", x -> x.odds(v, v));
            stays("tell", x -> x.tell(v));
            stays("sample", x -> x.sample(v));
            stays("many", x -> x.many(v));
        }
        stays("lose", x -> x.lose(3));
        stays("lose", x -> x.lose(1));
        stays("lose", x -> x.lose(4));
        stays("tally", FontRuns::tally);
        stays("check", x -> x.check());
        stays("trace", FontRuns::trace);
        stays("fault", FontRuns::fault);
    }

    private static void takesBack(String name, ToLongFunction<FontRuns> call) {
        for (int fault = 1; fault <= 4; fault++) {
            FontRuns x = Edges.lived();
            come(x, fault);
            call.applyAsLong(x);
            due.is(name + " takes back " + fault, x.fault(), 0);
        }
    }

    private static void faultIsTakenBack() {
        due.begin("32 0: it came to none");
        takesBack("fonts", x -> x.fonts(0, 0, 0, 32));
        takesBack("fonts, a wrong TEXT", x -> x.fonts(0, 0, 0, 26));
        takesBack("write", x -> x.write(1, 2, 0, 1));
        takesBack("day", x -> x.day(2, 1, 0, 1, 0));
        takesBack("sheet", x -> x.sheet(3, 0, 0));
        takesBack("put", x -> x.put(0, 0, 0));
        takesBack("cell", x -> x.cell(0, 0, 0));
        takesBack("copy", x -> x.copy(0, 0, 0, 0, 1));
        takesBack("as", x -> x.as(0, 0));
        FontRuns wrong = Edges.lived();
        wrong.put(2, 2, 14);
        come(wrong, 3);
        due.is("a day with a FIRST WRONG", wrong.day(2, 1, 2, 1, 0), -100);
        due.is("takes it back", wrong.fault(), 0);
        due.begin("32 0: it was refused");
        takesBack("fonts", x -> x.fonts(4, 0, 0, 0));
        takesBack("fonts", x -> x.fonts(0, 3, 0, 0));
        takesBack("write", x -> x.write(4, 0, 0, 0));
        takesBack("write", x -> x.write(0, 0, 0, 25));
        takesBack("write", x -> x.write(0, 0, 0, 1));
        takesBack("write", x -> x.write(1, 2, 0, 12));
        takesBack("day", x -> x.day(4, 0, 0, 0, 0));
        takesBack("day", x -> x.day(2, 1, 0, 0, 5));
        takesBack("day", x -> x.day(2, 1, 1, 1, 0));
        takesBack("sheet", x -> x.sheet(4, 0, 0));
        takesBack("sheet", x -> x.sheet(0, 0, 61));
        takesBack("put", x -> x.put(4, 0, 0));
        takesBack("cell", x -> x.cell(4, 0, 0));
        takesBack("cell", x -> x.cell(0, 0, 3));
        takesBack("copy", x -> x.copy(4, 0, 0, 0, 0));
        takesBack("as", x -> x.as(4, 0));
        takesBack("as", x -> x.as(0, 3));
    }

    private static void faultIsTheLatest() {
        due.begin("32 the FAULT of the latest call");
        FontRuns x = Edges.lived();
        for (int before = 0; before <= 4; before++) {
            for (int fault = 0; fault <= 4; fault++) {
                come(x, before);
                come(x, fault);
            }
        }
        due.begin("32 0 ahead of any");
        due.is("at first", new FontRuns().fault(), 0);
        x = new FontRuns();
        x.tell(0);
        x.lose(0);
        due.is("behind calls that name none", x.fault(), 0);
    }

    // ---- promise 33

    private static void many(String name, FontRuns x, int... want) {
        for (int what = 0; what < 4; what++) {
            due.is(name + ", what " + what, x.many(what), want[what]);
        }
    }

    private static void manyNumbers() {
        edges.of("33 OUTSIDE", Edges::lived);
        for (int what : new int[] {-1, 4, Edges.MIN, Edges.MAX}) {
            edges.still("" + what, x -> x.many(what), Edges.OUTSIDE);
        }
        edges.of("33 OUTSIDE, no FONTS", FontRuns::new);
        edges.still("4", x -> x.many(4), Edges.OUTSIDE);
        edges.still("-1", x -> x.many(-1), Edges.OUTSIDE);
        due.begin("33 how many");
        many("0 all without FONTS", new FontRuns(), 0, 0, 0, 0);
        many("0 all without FONTS, but rows", Edges.fontless(), 0, 0, 0, 0);
        many("one font", Due.withFonts("f;A1a"), 1, 0, 0, 0);
        many("some", Edges.lived(), 4, 13, 9, 2);
        FontRuns x = Due.withWriting("f;A1a;A1b;A1c;A1d", Edges.turns(24));
        for (int n = 0; n < 8; n++) {
            x.reading(0);
        }
        many("all full", x, 4, 24, 24, 8);
        x.reading(0);
        x.write(1, 2, 0, 1);
        many("refused beyond", x, 4, 24, 24, 8);
        many("marks", Due.withWriting("f;A1a", 12, 13, 14), 1, 3, 1, 0);
    }
}
