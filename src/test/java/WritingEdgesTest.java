import java.math.BigInteger;

/** Promises 5 to 13, sentence by sentence: where a number, a row or a LETTER is just taken and just not. */
public final class WritingEdgesTest {
    private static final Edges edges = new Edges();
    private static final Due due = edges.due;

    public static void main(String[] args) {
        writeHowMany();
        writeCells();
        writeSheetAndLane();
        writeLetters();
        writeFull();
        writeOrder();
        writeWithoutFonts();
        eraseHowMany();
        eraseCutsClusters();
        letterPlaces();
        clusterNumbers();
        clusterBasesAndMarks();
        clusterFonts();
        bestWithTies();
        runNumbers();
        runLeastAndMost();
        preferNumbers();
        preferKeepsOrder();
        latestNumbers();
        latestFive();
        tallyOfAll();
        checkWraps();
        edges.end();
    }

    // ---- promise 5

    /** Four fonts, no letters; row 1 has sixty bytes, all LETTER 0; row 2 has none; sheet 3 has nothing. */
    private static FontRuns roomy() {
        FontRuns x = Due.withFonts(Due.FOUR);
        x.sheet(1, 0, 60);
        x.sheet(2, 1, 0);
        return x;
    }

    private static void writeHowMany() {
        edges.ofFaulting("5 n (0 .. 24)", WritingEdgesTest::roomy);
        edges.still("0", x -> x.write(1, 0, 0, 0), 0);
        edges.answers("1", x -> x.write(1, 0, 0, 1), 1);
        edges.answers("24", x -> x.write(1, 0, 0, 24), 24);
        for (int n : new int[] {-1, 25, Edges.MIN, Edges.MAX}) {
            edges.still("" + n, x -> x.write(1, 0, 0, n), Edges.OUTSIDE);
        }
    }

    private static void writeCells() {
        edges.ofFaulting("5 cells of a SHEET from i on", WritingEdgesTest::roomy);
        edges.answers("the last 24", x -> x.write(1, 0, 36, 24), 24);
        edges.answers("the last one", x -> x.write(1, 0, 59, 1), 1);
        edges.still("none at the end", x -> x.write(1, 0, 60, 0), 0);
        edges.still("none of a row of none", x -> x.write(2, 1, 0, 0), 0);
        edges.faults("24 beyond the end", x -> x.write(1, 0, 37, 24), Edges.INDEX);
        edges.faults("one at the end", x -> x.write(1, 0, 60, 1), Edges.INDEX);
        edges.faults("none beyond the end", x -> x.write(1, 0, 61, 0), Edges.INDEX);
        edges.faults("none ahead of the head", x -> x.write(1, 0, -1, 0), Edges.INDEX);
        edges.faults("one ahead of the head", x -> x.write(1, 0, -1, 1), Edges.INDEX);
        edges.faults("one of a row of none", x -> x.write(2, 1, 0, 1), Edges.INDEX);
        edges.faults("none beyond a row of none", x -> x.write(2, 1, 1, 0), Edges.INDEX);
        edges.faults("i the most", x -> x.write(1, 0, Edges.MAX, 24), Edges.INDEX);
        edges.faults("i the least", x -> x.write(1, 0, Edges.MIN, 24), Edges.INDEX);
    }

    private static FontRuns aRowOfEachLane() {
        FontRuns x = Due.withFonts("f;A1p");
        for (int k = 0; k < 3; k++) {
            Due.row(x, k, k, 15, 0);
        }
        return x;
    }

    private static void writeSheetAndLane() {
        edges.ofFaulting("5 UNKNOWN: SHEET; OUTSIDE: lane; CAST, NULL", WritingEdgesTest::aRowOfEachLane);
        for (int each = 0; each < 12; each++) {
            int k = each / 3, lane = each % 3;
            if (k == lane) {
                edges.answers("row of " + k, x -> x.write(k, lane, 0, 2), 2);
            } else {
                edges.faults("row of " + k + " as of " + lane, x -> x.write(k, lane, 0, 2), k < 3 ? Edges.CAST : Edges.NULL);
            }
        }
        for (int k : new int[] {-1, 4, Edges.MIN, Edges.MAX}) {
            edges.still("sheet " + k, x -> x.write(k, 0, 0, 0), Edges.UNKNOWN);
        }
        for (int lane : new int[] {-1, 3, Edges.MIN, Edges.MAX}) {
            edges.still("lane " + lane, x -> x.write(0, lane, 0, 0), Edges.OUTSIDE);
        }
        due.begin("5 SHEETS 0 .. 3");
        FontRuns x = aRowOfEachLane();
        Due.row(x, 3, 0, 7);
        due.is("sheet 3", x.write(3, 0, 0, 1), 1);
        due.is("its letter", x.letter(0), 7);
    }

    private static void writeLetters() {
        for (int lane = 0; lane < 3; lane++) {
            int row = lane;
            for (int l = 0; l < 16; l++) {
                int letter = l;
                edges.ofFaulting("5 a LETTER, lane " + lane, () -> withRow(row, letter));
                edges.answers("letter " + l, x -> x.write(1, row, 0, 1), 1);
            }
            for (int l : new int[] {-1, 16, 127, -128, -16}) {
                edges.ofFaulting("5 OUTSIDE: a cell is not 0 .. 15, lane " + lane, () -> withRow(row, 3, l, 4));
                edges.still("the only one, " + l, x -> x.write(1, row, 1, 1), Edges.OUTSIDE);
                edges.still("the last one, " + l, x -> x.write(1, row, 0, 2), Edges.OUTSIDE);
                edges.still("the first one, " + l, x -> x.write(1, row, 1, 2), Edges.OUTSIDE);
                edges.still("among others, " + l, x -> x.write(1, row, 0, 3), Edges.OUTSIDE);
                edges.answers("right behind, " + l, x -> x.write(1, row, 0, 1), 1);
                edges.answers("right ahead, " + l, x -> x.write(1, row, 2, 1), 1);
                edges.still("none taken, " + l, x -> x.write(1, row, 1, 0), 0);
            }
        }
        edges.ofFaulting("5 a cell is not cut once more", () -> withRow(2, 256, 65536, Edges.MIN, Edges.MAX));
        for (int i = 0; i < 4; i++) {
            int at = i;
            edges.still("cell " + i, x -> x.write(1, 2, at, 1), Edges.OUTSIDE);
        }
        edges.ofFaulting("5 a cell is cut as it comes", () -> withRow(0, 256 + 15));
        edges.answers("to a byte", x -> x.write(1, 0, 0, 1), 1);
    }

    private static FontRuns withRow(int lane, int... cells) {
        FontRuns x = Due.withFonts("f;A1a");
        Due.row(x, 1, lane, cells);
        return x;
    }

    private static FontRuns almostFull(int letters) {
        FontRuns x = Due.withFonts("f;A1a;C9b");
        Due.written(x, Edges.turns(letters));
        Due.row(x, 1, 2, Edges.turns(24));
        return x;
    }

    private static void writeFull() {
        edges.ofFaulting("5 FULL: it would have more than 24", Edges::full);
        edges.still("none more", x -> x.write(1, 2, 0, 0), 24);
        edges.still("one more", x -> x.write(1, 2, 0, 1), Edges.FULL);
        edges.still("24 more", x -> x.write(1, 2, 0, 24), Edges.FULL);
        edges.ofFaulting("5 FULL, behind 23", () -> almostFull(23));
        edges.answers("one more", x -> x.write(1, 2, 0, 1), 24);
        edges.still("two more", x -> x.write(1, 2, 0, 2), Edges.FULL);
        edges.ofFaulting("5 FULL, behind 1", () -> almostFull(1));
        edges.answers("23 more", x -> x.write(1, 2, 0, 23), 24);
        edges.still("24 more", x -> x.write(1, 2, 0, 24), Edges.FULL);
        due.begin("5 FULL, erased and written again");
        FontRuns x = Edges.full();
        x.erase(2);
        due.is("two", x.write(1, 2, 0, 2), 24);
        due.is("one more", x.write(1, 2, 0, 1), Edges.FULL);
        due.is("tally", x.tally(), 26);
    }

    private static void writeOrder() {
        edges.ofFaulting("5 the first that is told", Edges::lived);
        edges.still("UNKNOWN, OUTSIDE lane", x -> x.write(4, 3, 0, 0), Edges.UNKNOWN);
        edges.still("UNKNOWN, OUTSIDE n", x -> x.write(-1, 0, 0, 25), Edges.UNKNOWN);
        edges.still("UNKNOWN, INDEX", x -> x.write(-1, 0, -1, 0), Edges.UNKNOWN);
        edges.still("OUTSIDE lane, NULL", x -> x.write(3, 3, 0, 0), Edges.OUTSIDE);
        edges.still("OUTSIDE lane, INDEX", x -> x.write(1, 3, 14, 0), Edges.OUTSIDE);
        edges.still("OUTSIDE n, NULL", x -> x.write(3, 0, 0, -1), Edges.OUTSIDE);
        edges.still("OUTSIDE n, CAST", x -> x.write(1, 0, 0, 25), Edges.OUTSIDE);
        edges.still("OUTSIDE n, INDEX", x -> x.write(1, 2, 0, 25), Edges.OUTSIDE);
        edges.still("OUTSIDE n below 0, INDEX", x -> x.write(1, 2, -1, -1), Edges.OUTSIDE);
        edges.faults("NULL, INDEX", x -> x.write(3, 0, -1, 0), Edges.NULL);
        edges.faults("CAST, INDEX", x -> x.write(1, 1, 14, 0), Edges.CAST);
        edges.faults("CAST, OUTSIDE cell", x -> x.write(0, 1, 0, 1), Edges.CAST);
        edges.faults("INDEX, OUTSIDE cell", x -> x.write(0, 0, 20, 13), Edges.INDEX);
        edges.faults("INDEX, FULL", x -> x.write(1, 2, 0, 14), Edges.INDEX);
        edges.still("OUTSIDE cell, FULL", x -> x.write(0, 0, 0, 24), Edges.OUTSIDE);
        edges.still("FULL", x -> x.write(1, 2, 0, 12), Edges.FULL);
        edges.ofFaulting("5 the first that is told, of a full WRITING", Edges::full);
        edges.still("UNKNOWN, FULL", x -> x.write(4, 2, 0, 1), Edges.UNKNOWN);
        edges.still("OUTSIDE lane, FULL", x -> x.write(1, 3, 0, 1), Edges.OUTSIDE);
        edges.still("OUTSIDE n, FULL", x -> x.write(1, 2, 0, 25), Edges.OUTSIDE);
        edges.faults("NULL, FULL", x -> x.write(3, 2, 0, 1), Edges.NULL);
        edges.faults("CAST, FULL", x -> x.write(1, 1, 0, 1), Edges.CAST);
        edges.faults("INDEX, FULL", x -> x.write(1, 2, 24, 1), Edges.INDEX);
    }

    private static void writeWithoutFonts() {
        edges.ofFaulting("5 STATE: there are no FONTS", Edges::fontless);
        edges.still("some", x -> x.write(1, 2, 0, 13), Edges.STATE);
        edges.still("none", x -> x.write(1, 2, 0, 0), Edges.STATE);
        edges.still("STATE, OUTSIDE cell", x -> x.write(0, 0, 0, 1), Edges.STATE);
        edges.still("UNKNOWN, STATE", x -> x.write(4, 0, 0, 0), Edges.UNKNOWN);
        edges.still("OUTSIDE, STATE", x -> x.write(1, 2, 0, 25), Edges.OUTSIDE);
        edges.faults("NULL, STATE", x -> x.write(3, 2, 0, 0), Edges.NULL);
        edges.faults("CAST, STATE", x -> x.write(1, 1, 0, 0), Edges.CAST);
        edges.faults("INDEX, STATE", x -> x.write(1, 2, 0, 14), Edges.INDEX);
    }

    // ---- promise 6

    private static void eraseHowMany() {
        edges.of("6 0 .. as many as there are", Edges::lived);
        edges.still("0", x -> x.erase(0), 13);
        edges.answers("1", x -> x.erase(1), 12);
        edges.answers("12", x -> x.erase(12), 1);
        edges.answers("13", x -> x.erase(13), 0);
        for (int n : new int[] {-1, 14, Edges.MIN, Edges.MAX}) {
            edges.still("" + n, x -> x.erase(n), Edges.OUTSIDE);
        }
        edges.of("6 of a full WRITING", Edges::full);
        edges.answers("24", x -> x.erase(24), 0);
        edges.still("25", x -> x.erase(25), Edges.OUTSIDE);
        edges.of("6 of nothing written", () -> Due.withFonts(Due.FOUR));
        edges.still("0", x -> x.erase(0), 0);
        edges.still("1", x -> x.erase(1), Edges.OUTSIDE);
        edges.still("-1", x -> x.erase(-1), Edges.OUTSIDE);
    }

    private static void eraseCutsClusters() {
        due.begin("6 the last n LETTERS are erased");
        FontRuns x = Due.withWriting("f;A1an;B2mno", 0, 13, 12, 14);
        due.is("a box", x.ofCluster(0, 2), 0);
        x.erase(2);
        due.is("its marks", x.ofCluster(0, 1), 2);
        due.is("no box", x.ofCluster(0, 2), 1);
        due.is("the last letter", x.letter(1), 13);
        due.is("none behind it", x.letter(2), Edges.UNKNOWN);
        x.erase(2);
        due.is("clusters", x.many(2), 0);
        due.is("cluster", x.ofCluster(0, 0), Edges.UNKNOWN);
        due.is("run", x.ofRun(0, 0), Edges.UNKNOWN);
        due.is("TALLY stays", x.tally(), 4);
        Due.written(x, 14);
        due.is("a mark ahead of all bases", x.ofCluster(0, 2), 2);
    }

    // ---- promise 7

    private static void letterPlaces() {
        edges.of("7 there are not so many", Edges::lived);
        edges.still("0", x -> x.letter(0), 0);
        edges.still("12", x -> x.letter(12), 6);
        for (int k : new int[] {-1, 13, 24, Edges.MIN, Edges.MAX}) {
            edges.still("" + k, x -> x.letter(k), Edges.UNKNOWN);
        }
        edges.of("7 of a full WRITING", Edges::full);
        edges.still("23", x -> x.letter(23), 1);
        edges.still("24", x -> x.letter(24), Edges.UNKNOWN);
        edges.of("7 of nothing written", () -> Due.withFonts(Due.FOUR));
        edges.still("0", x -> x.letter(0), Edges.UNKNOWN);
        edges.of("7 of one LETTER", () -> Due.withWriting(Due.FOUR, 15));
        edges.still("0", x -> x.letter(0), 15);
        edges.still("1", x -> x.letter(1), Edges.UNKNOWN);
    }

    // ---- promise 8

    private static void clusterNumbers() {
        edges.of("8 UNKNOWN; OUTSIDE", Edges::lived);
        edges.still("0", x -> x.ofCluster(0, 0), 0);
        edges.still("8", x -> x.ofCluster(8, 0), 12);
        for (int k : new int[] {-1, 9, Edges.MIN, Edges.MAX}) {
            edges.still("cluster " + k, x -> x.ofCluster(k, 0), Edges.UNKNOWN);
            edges.still("UNKNOWN, OUTSIDE", x -> x.ofCluster(k, 5), Edges.UNKNOWN);
            edges.still("UNKNOWN, OUTSIDE", x -> x.ofCluster(k, -1), Edges.UNKNOWN);
        }
        for (int what : new int[] {-1, 5, Edges.MIN, Edges.MAX}) {
            edges.still("what " + what, x -> x.ofCluster(0, what), Edges.OUTSIDE);
        }
        edges.of("8 of nothing written", () -> Due.withFonts(Due.FOUR));
        edges.still("0", x -> x.ofCluster(0, 0), Edges.UNKNOWN);
        edges.of("8 24 CLUSTERS", Edges::full);
        int[] last = {23, 1, 2, 1, 23};
        for (int each = 0; each < 5; each++) {
            int what = each;
            edges.still("23, what " + what, x -> x.ofCluster(23, what), last[what]);
        }
        edges.still("24", x -> x.ofCluster(24, 0), Edges.UNKNOWN);
    }

    private static void clustersOf(String name, int[] firsts, int... letters) {
        FontRuns x = Due.withWriting(Due.FOUR, letters);
        due.is(name + ", clusters", x.many(2), firsts.length);
        for (int k = 0; k < firsts.length; k++) {
            int end = k + 1 < firsts.length ? firsts[k + 1] : letters.length;
            due.is(name + ", first of " + k, x.ofCluster(k, 0), firsts[k]);
            due.is(name + ", length of " + k, x.ofCluster(k, 1), end - firsts[k]);
        }
    }

    private static void clusterBasesAndMarks() {
        due.begin("8 each BASE with all MARKS right behind it");
        clustersOf("a base", new int[] {0}, 0);
        clustersOf("the last base", new int[] {0, 1}, 11, 11);
        clustersOf("the first mark", new int[] {0}, 11, 12);
        clustersOf("the last mark", new int[] {0, 2}, 0, 15, 0);
        clustersOf("marks alike", new int[] {0, 4}, 1, 13, 13, 13, 2);
        clustersOf("a base with 23", new int[] {0}, 0, 12, 13, 14, 15, 12, 13, 14, 15, 12, 13, 14, 15, 12, 13, 14, 15,
                12, 13, 14, 15, 12, 13, 14);
        due.begin("8 MARKS ahead of all BASES are one together");
        clustersOf("one", new int[] {0}, 12);
        clustersOf("one, and a base", new int[] {0, 1}, 15, 0);
        clustersOf("three, and a base with two", new int[] {0, 3, 6}, 12, 15, 12, 3, 14, 13, 4);
        clustersOf("24", new int[] {0}, Edges.all(24, 14));
        due.begin("8 written one behind another");
        FontRuns x = Due.withWriting(Due.FOUR, 0);
        Due.written(x, 12);
        due.is("a mark comes to the base ahead", x.many(2), 1);
        due.is("its letters", x.ofCluster(0, 1), 2);
    }

    private static void clusterFonts() {
        due.begin("8 FONTS that FIT it");
        FontRuns x = Due.withWriting("f;A1abm;A1amn;A1am;A1a", 0, 0, 12, 0, 12, 13, 0, 12, 14, 1, 2);
        int[] want = {15, 7, 2, 0, 1, 0};
        for (int k = 0; k < want.length; k++) {
            due.is("cluster " + k, x.ofCluster(k, 2), want[k]);
        }
        due.begin("8 a MARK that comes twice is one that the FONT must have");
        x = Due.withWriting("f;A1am;A1a;A1mn", 12, 12, 0, 12, 12, 0, 13, 13);
        due.is("ahead of all bases", x.ofCluster(0, 2), 5);
        due.is("behind a base", x.ofCluster(1, 2), 1);
        due.is("a box", x.ofCluster(2, 2), 0);
        due.begin("8 a FONT that HAS all its LETTERS, not each of them in some FONT");
        x = Due.withWriting("f;A1a;A1m", 0, 12);
        due.is("a box", x.ofCluster(0, 2), 0);
        due.is("its font", x.ofCluster(0, 3), 0);
        due.is("boxes", x.best(2), 1);
    }

    private static void choice(String name, FontRuns x, int... want) {
        for (int k = 0; k < want.length; k++) {
            due.is(name + ", " + k, x.ofCluster(k, 3), want[k]);
        }
    }

    private static void bestWithTies() {
        due.begin("8 BEST: the fewest CHANGES");
        FontRuns x = Due.withWriting("f;A1ab;A1bcd;A1a", 0, 1, 2, 3);
        choice("a change as soon as the preferred one must go", x, 0, 0, 1, 1);
        x.prefer(1);
        choice("or at once, if the other is preferred", x, 0, 1, 1, 1);
        x.prefer(2);
        choice("not with a change more", x, 2, 1, 1, 1);
        x = Due.withWriting("f;A1ab;A1bc", 1, 2);
        choice("the last cluster settles the first one's", x, 1, 1);
        x = Due.withWriting("f;A1ab;A1bc", 1, 0);
        x.prefer(1);
        choice("against preference, too", x, 0, 0);
        due.begin("8 BEST: any FONT, if it is a BOX");
        x = Due.withWriting("f;A1a;A1b;A1c", 11, 0, 11, 1, 11);
        choice("boxes", x, 0, 0, 0, 1, 1);
        x.prefer(2);
        choice("a font that fits none is no choice", x, 0, 0, 0, 1, 1);
        x.prefer(1);
        choice("a box between two goes by preference", x, 0, 0, 1, 1, 1);
        due.begin("8 BEST: a BOX alone");
        x = Due.withWriting("f;A1a;A1b;A1c", 11);
        x.prefer(2);
        choice("the head of PREFERENCE", x, 2);
    }

    // ---- promise 9

    private static void runNumbers() {
        edges.of("9 UNKNOWN; OUTSIDE", Edges::lived);
        edges.still("0", x -> x.ofRun(0, 2), 3);
        edges.still("3", x -> x.ofRun(3, 0), 3);
        edges.still("what 3", x -> x.ofRun(3, 3), 8);
        for (int r : new int[] {-1, 4, 9, Edges.MIN, Edges.MAX}) {
            edges.still("run " + r, x -> x.ofRun(r, 0), Edges.UNKNOWN);
            edges.still("UNKNOWN, OUTSIDE", x -> x.ofRun(r, 4), Edges.UNKNOWN);
            edges.still("UNKNOWN, OUTSIDE", x -> x.ofRun(r, -1), Edges.UNKNOWN);
        }
        for (int what : new int[] {-1, 4, Edges.MIN, Edges.MAX}) {
            edges.still("what " + what, x -> x.ofRun(0, what), Edges.OUTSIDE);
        }
        edges.of("9 of nothing written", () -> Due.withFonts(Due.FOUR));
        edges.still("0", x -> x.ofRun(0, 0), Edges.UNKNOWN);
    }

    private static void runLeastAndMost() {
        edges.of("9 24 RUNS", Edges::full);
        int[] last = {1, 23, 1, 18};
        for (int each = 0; each < 4; each++) {
            int what = each;
            edges.still("23, what " + what, x -> x.ofRun(23, what), last[what]);
        }
        edges.still("24", x -> x.ofRun(24, 0), Edges.UNKNOWN);
        edges.of("9 one RUN of 24", () -> Due.withWriting("f;A1a;C9b", Edges.all(24, 1)));
        int[] only = {1, 0, 24, 432};
        for (int each = 0; each < 4; each++) {
            int what = each;
            edges.still("0, what " + what, x -> x.ofRun(0, what), only[what]);
        }
        edges.still("1", x -> x.ofRun(1, 0), Edges.UNKNOWN);
    }

    // ---- promise 10

    private static void preferNumbers() {
        edges.of("10 UNKNOWN", Edges::lived);
        edges.answers("0", x -> x.prefer(0), 2);
        edges.answers("1", x -> x.prefer(1), 0);
        edges.answers("2", x -> x.prefer(2), 1);
        edges.answers("3", x -> x.prefer(3), 3);
        for (int f : new int[] {-1, 4, Edges.MIN, Edges.MAX}) {
            edges.still("" + f, x -> x.prefer(f), Edges.UNKNOWN);
        }
        edges.of("10 UNKNOWN, of one FONT", () -> Due.withWriting("f;A1a", 0));
        edges.answers("0", x -> x.prefer(0), 0);
        edges.still("1", x -> x.prefer(1), Edges.UNKNOWN);
        edges.of("10 UNKNOWN, no FONTS", FontRuns::new);
        edges.still("0", x -> x.prefer(0), Edges.UNKNOWN);
    }

    private static void preferKeepsOrder() {
        due.begin("10 it comes to the head, the others keep their order");
        int[][] places = {{0, 1, 2, 3}, {1, 0, 2, 3}, {1, 2, 0, 3}, {1, 2, 3, 0}};
        for (int f = 0; f < 4; f++) {
            FontRuns x = Due.withFonts(Due.FOUR);
            due.is("place that was", x.prefer(f), f);
            for (int other = 0; other < 4; other++) {
                due.is(f + " preferred, place of " + other, x.ofFont(other, 4), places[f][other]);
            }
            due.is("place that was, again", x.prefer(f), 0);
            due.is("once more in the latest", x.latest(1), f);
            due.is("twice in all", x.latest(2), Edges.NONE);
        }
    }

    // ---- promise 11

    private static void latestNumbers() {
        edges.of("11 0 .. 4", Edges::lived);
        edges.still("0", x -> x.latest(0), 1);
        edges.still("1", x -> x.latest(1), 2);
        edges.still("2", x -> x.latest(2), Edges.NONE);
        edges.still("4", x -> x.latest(4), Edges.NONE);
        for (int k : new int[] {-1, 5, Edges.MIN, Edges.MAX}) {
            edges.still("" + k, x -> x.latest(k), Edges.OUTSIDE);
        }
        edges.of("11 no FONTS", FontRuns::new);
        edges.still("0", x -> x.latest(0), Edges.NONE);
        edges.still("4", x -> x.latest(4), Edges.NONE);
        edges.still("5", x -> x.latest(5), Edges.OUTSIDE);
        edges.still("-1", x -> x.latest(-1), Edges.OUTSIDE);
    }

    private static void latestFive() {
        due.begin("11 the latest five times are kept");
        FontRuns x = Due.withFonts(Due.FOUR);
        int[] preferred = {2, 0, 0, 3, 1, 2, 2, 3};
        for (int n = 0; n < preferred.length; n++) {
            x.prefer(preferred[n]);
            x.prefer(4);
            for (int k = 0; k < 5; k++) {
                due.is("behind " + (n + 1) + ", " + k, x.latest(k), k <= n ? preferred[n - k] : Edges.NONE);
            }
        }
        Due.dayOf(x, 0, 0, 22);
        due.is("a day told keeps none", x.latest(0), 3);
    }

    // ---- promise 12 and 13

    private static void tallyOfAll() {
        due.begin("12 TALLY: how many LETTERS were ever WRITTEN");
        FontRuns x = Due.withFonts(Due.FOUR);
        due.is("none", x.tally(), 0);
        Due.written(x);
        due.is("none written", x.tally(), 0);
        Due.written(x, 0);
        due.is("one", x.tally(), 1);
        x.erase(1);
        due.is("erased", x.tally(), 1);
        Due.written(x, Edges.all(24, 15));
        due.is("24 more", x.tally(), 25);
        x.write(1, 2, 0, 1);
        due.is("refused: FULL", x.tally(), 25);
        Due.dayOf(x, 0, 24, 21, 3, 20);
        due.is("a day told", x.tally(), 25);
        x.odds(0, 0);
        due.is("odds", x.tally(), 25);
        Due.told(x, "f;A1");
        due.is("a wrong TEXT", x.tally(), 25);
        Due.told(x, "f;A1a");
        due.is("a TEXT that is taken", x.tally(), 25);
        Due.written(x, 0, 1);
        due.is("through other fonts", x.tally(), 27);
    }

    private static void checkWraps() {
        due.begin("13 CHECK wraps");
        FontRuns x = Due.withFonts(Due.FOUR);
        BigInteger all = BigInteger.ZERO;
        due.is("at first", x.check(), 0);
        for (int n = 0; n < 60; n++) {
            int l = n * 7 % 16;
            x.put(0, 0, l);
            x.write(0, 0, 0, 1);
            x.erase(n % 3 == 0 ? 1 : 0);
            x.erase(x.many(1) > 20 ? 15 : 0);
            all = all.multiply(BigInteger.valueOf(31)).add(BigInteger.valueOf(l + 1));
            due.is("behind " + (n + 1), x.check(), all.longValue());
        }
        due.is("it did wrap", all.bitLength() > 64 ? 1 : 0, 1);
        due.begin("13 CHECK of the least and the largest LETTER");
        due.is("0", Due.withWriting(Due.FOUR, 0).check(), 1);
        due.is("15", Due.withWriting(Due.FOUR, 15).check(), 16);
        due.is("none", Due.withWriting(Due.FOUR).check(), 0);
        due.is("at once or one by one", Due.withWriting(Due.FOUR, 15, 0).check(), 16 * 31 + 1);
    }
}
