/** Promise 14, sentence by sentence: pairs, acts and days that just can be and just can't. */
public final class DayEdgesTest {
    private static final Edges edges = new Edges();
    private static final Due due = edges.due;
    private static final int[] WHATS = {0, 1, 2, 3, 4, 10, 11, 12, 13};

    public static void main(String[] args) {
        howManyPairs();
        pairsLieInARow();
        whats();
        sheetAndLane();
        letterThatComes();
        lettersThatAreErased();
        fontThatIsPreferred();
        secondsOfPairs();
        order();
        withoutFonts();
        firstWrong();
        outsideBehindFirstWrong();
        leastAndMostAnswers();
        asIfItWere();
        edges.end();
    }

    /** lived() with these pairs in sheet 2, as shorts. */
    private static FontRuns told(int... pairs) {
        FontRuns x = Edges.lived();
        Due.row(x, 2, 1, pairs);
        return x;
    }

    /** A writing of so many letters, with these pairs in sheet 2. */
    private static FontRuns behind(int letters, int... pairs) {
        FontRuns x = Due.withFonts("f;A1a;C9b;B2c");
        Due.written(x, Edges.turns(letters));
        Due.row(x, 2, 1, pairs);
        return x;
    }

    private static int[] pairs(int n, int first, int second) {
        int[] row = new int[2 * n];
        for (int k = 0; k < n; k++) {
            row[2 * k] = first;
            row[2 * k + 1] = second;
        }
        return row;
    }

    private static void howManyPairs() {
        edges.ofFaulting("14 n (0 .. 20)", () -> behind(2, pairs(24, 0, 20)));
        edges.still("0", x -> x.day(2, 1, 0, 0, 2), 2);
        edges.still("1", x -> x.day(2, 1, 0, 1, 2), 3);
        edges.still("20", x -> x.day(2, 1, 0, 20, 2), 22);
        for (int n : new int[] {-1, 21, Edges.MIN, Edges.MAX, Edges.MIN / 2, 1 << 30}) {
            edges.still("" + n, x -> x.day(2, 1, 0, n, 2), Edges.OUTSIDE);
        }
    }

    private static FontRuns sixtyCells() {
        FontRuns x = behind(2, pairs(30, 0, 21));
        x.sheet(3, 0, 0);
        return x;
    }

    private static void pairsLieInARow() {
        edges.ofFaulting("14 cells of a SHEET from i on (2 n)", DayEdgesTest::sixtyCells);
        edges.still("the last twenty", x -> x.day(2, 1, 20, 20, 2), 2);
        edges.still("the last one", x -> x.day(2, 1, 58, 1, 2), 2);
        edges.still("none at the end", x -> x.day(2, 1, 60, 0, 2), 2);
        edges.still("none of a row of none", x -> x.day(3, 0, 0, 0, 2), 2);
        edges.faults("half of the last one is not there", x -> x.day(2, 1, 59, 1, 2), Edges.INDEX);
        edges.faults("twenty, one cell beyond", x -> x.day(2, 1, 21, 20, 2), Edges.INDEX);
        edges.faults("one at the end", x -> x.day(2, 1, 60, 1, 2), Edges.INDEX);
        edges.faults("none beyond the end", x -> x.day(2, 1, 61, 0, 2), Edges.INDEX);
        edges.faults("none ahead of the head", x -> x.day(2, 1, -1, 0, 2), Edges.INDEX);
        edges.faults("one ahead of the head", x -> x.day(2, 1, -2, 1, 2), Edges.INDEX);
        edges.faults("one of a row of none", x -> x.day(3, 0, 0, 1, 2), Edges.INDEX);
        edges.faults("none beyond a row of none", x -> x.day(3, 0, 1, 0, 2), Edges.INDEX);
        edges.faults("i the most", x -> x.day(2, 1, Edges.MAX, 20, 2), Edges.INDEX);
        edges.faults("i the least", x -> x.day(2, 1, Edges.MIN, 20, 2), Edges.INDEX);
        edges.ofFaulting("14 from i on", () -> told(9, 9, 3, 21, 1, 20));
        edges.still("from 2 on", x -> x.day(2, 1, 2, 2, 2), 8);
        edges.still("from an odd cell on", x -> x.day(2, 1, 1, 0, 2), 9);
        edges.ofFaulting("14 a pair from an odd cell on", () -> told(9, 3, 21));
        edges.still("from 1 on", x -> x.day(2, 1, 1, 1, 2), 7);
    }

    private static void whats() {
        edges.ofFaulting("14 what (0 .. 4, 10 .. 13)", () -> told(3, 22));
        int[] want = {3, Edges.NONE, 9, 1, 47, 3, 1, 2, 0};
        for (int each = 0; each < WHATS.length; each++) {
            int what = WHATS[each];
            edges.still("what " + what, x -> x.day(2, 1, 0, 1, what), want[each]);
        }
        for (int what : new int[] {-1, 5, 9, 14, Edges.MIN, Edges.MAX}) {
            edges.still("what " + what, x -> x.day(2, 1, 0, 1, what), Edges.OUTSIDE);
        }
        edges.ofFaulting("14 NONE: there is no such FONT", () -> behind(2, 2, 22));
        edges.still("the last one", x -> x.day(2, 1, 0, 1, 12), 0);
        edges.still("none behind it", x -> x.day(2, 1, 0, 1, 13), Edges.NONE);
    }

    private static void sheetAndLane() {
        edges.ofFaulting("14 UNKNOWN: SHEET; OUTSIDE: lane; CAST, NULL", () -> told(3, 22));
        for (int k : new int[] {-1, 4, Edges.MIN, Edges.MAX}) {
            edges.still("sheet " + k, x -> x.day(k, 1, 0, 1, 0), Edges.UNKNOWN);
        }
        for (int lane : new int[] {-1, 3, Edges.MIN, Edges.MAX}) {
            edges.still("lane " + lane, x -> x.day(2, lane, 0, 1, 0), Edges.OUTSIDE);
        }
        for (int each = 0; each < 3; each++) {
            int lane = each;
            edges.faults("nothing, lane " + lane, x -> x.day(3, lane, 0, 0, 0), Edges.NULL);
            if (lane != 1) {
                edges.faults("lane " + lane, x -> x.day(2, lane, 0, 1, 0), Edges.CAST);
            }
        }
        due.begin("14 a row of each LANE, each SHEET");
        for (int k = 0; k < 4; k++) {
            for (int lane = 0; lane < 3; lane++) {
                FontRuns x = behind(2);
                Due.row(x, k, lane, 2, 20);
                due.is("row " + k + " of lane " + lane, x.day(k, lane, 0, 1, 2), 3);
            }
        }
    }

    private static void letterThatComes() {
        for (int each = 0; each < 16; each++) {
            int l = each;
            edges.ofFaulting("14 a LETTER (0 .. 15) and 20", () -> told(l, 20));
            edges.still("letter " + l, x -> x.day(2, 1, 0, 1, 2), l < 12 ? 10 : 9);
        }
        for (int l : new int[] {-1, 16, 20, 32767, -32768}) {
            edges.ofFaulting("14 the first is no LETTER", () -> told(l, 20));
            edges.still("letter " + l, x -> x.day(2, 1, 0, 1, 1), Edges.OUTSIDE);
        }
        edges.ofFaulting("14 a 25th LETTER", () -> behind(23, 0, 20, 1, 20));
        edges.still("the 24th can be", x -> x.day(2, 1, 0, 1, 1), Edges.NONE);
        edges.still("and is a cluster", x -> x.day(2, 1, 0, 1, 2), 24);
        edges.still("the 25th can't be", x -> x.day(2, 1, 0, 2, 1), 1);
        edges.still("nor be asked of", x -> x.day(2, 1, 0, 2, 2), -101);
        edges.ofFaulting("14 a 25th LETTER at once", () -> behind(24, 15, 20));
        edges.still("can't be", x -> x.day(2, 1, 0, 1, 1), 0);
        edges.still("and none changes nothing", x -> x.day(2, 1, 0, 0, 0), 23);
        edges.ofFaulting("14 a 24th LETTER again", () -> behind(24, 1, 21, 15, 20, 0, 20));
        edges.still("one goes, one comes", x -> x.day(2, 1, 0, 2, 1), Edges.NONE);
        edges.still("one more can't", x -> x.day(2, 1, 0, 3, 1), 2);
    }

    private static void lettersThatAreErased() {
        for (int n : new int[] {-1, 25, 32767, -32768}) {
            edges.ofFaulting("14 n is not 0 .. 24, and 21", () -> told(n, 21));
            edges.still("" + n, x -> x.day(2, 1, 0, 1, 1), Edges.OUTSIDE);
        }
        edges.ofFaulting("14 n (0 .. 24) and 21, of 24", () -> behind(24, 24, 21, 0, 21, 1, 21));
        edges.still("24", x -> x.day(2, 1, 0, 1, 2), 0);
        edges.still("24, none", x -> x.day(2, 1, 0, 2, 1), Edges.NONE);
        edges.still("24, none, one", x -> x.day(2, 1, 0, 3, 1), 2);
        edges.still("none", x -> x.day(2, 1, 2, 1, 2), 24);
        for (int each = 0; each <= 24; each++) {
            int n = each;
            edges.ofFaulting("14 there are not so many, of 13", () -> told(n, 21));
            edges.still("" + n, x -> x.day(2, 1, 0, 1, 1), n <= 13 ? Edges.NONE : 0);
        }
        edges.ofFaulting("14 there are not so many, of none", () -> behind(0, 0, 21, 1, 21));
        edges.still("none", x -> x.day(2, 1, 0, 1, 1), Edges.NONE);
        edges.still("one", x -> x.day(2, 1, 0, 2, 1), 1);
    }

    private static void fontThatIsPreferred() {
        for (int each = 0; each < 4; each++) {
            int f = each;
            edges.ofFaulting("14 a FONT (0 .. 3) and 22", () -> told(f, 22));
            edges.still("font " + f, x -> x.day(2, 1, 0, 1, 10 + f), 0);
        }
        for (int f : new int[] {-1, 4, 32767, -32768}) {
            edges.ofFaulting("14 the first is no FONT's number", () -> told(f, 22));
            edges.still("font " + f, x -> x.day(2, 1, 0, 1, 1), Edges.OUTSIDE);
        }
        edges.ofFaulting("14 there is no such FONT", () -> behind(2, 2, 22, 3, 22));
        edges.still("the last one", x -> x.day(2, 1, 0, 1, 1), Edges.NONE);
        edges.still("none behind it", x -> x.day(2, 1, 0, 2, 1), 1);
        edges.still("asked of that one", x -> x.day(2, 1, 0, 2, 13), -101);
        edges.ofFaulting("14 the first is no FONT's number, of three FONTS", () -> behind(2, 4, 22));
        edges.still("4", x -> x.day(2, 1, 0, 1, 1), Edges.OUTSIDE);
    }

    private static void secondsOfPairs() {
        for (int second : new int[] {19, 23, 0, -1, 32767, -32768}) {
            edges.ofFaulting("14 the second is not 20 .. 22", () -> told(0, second));
            edges.still("second " + second, x -> x.day(2, 1, 0, 1, 1), Edges.OUTSIDE);
            edges.ofFaulting("14 the second is not 20 .. 22, of a later pair", () -> told(0, 20, 0, 21, 0, second));
            edges.still("not taken", x -> x.day(2, 1, 0, 2, 1), Edges.NONE);
            edges.still("taken", x -> x.day(2, 1, 0, 3, 1), Edges.OUTSIDE);
        }
        int[][] firsts = {{16, 20}, {-1, 20}, {25, 21}, {-1, 21}, {4, 22}, {-1, 22}};
        for (int[] pair : firsts) {
            edges.ofFaulting("14 the first is not as told, of a later pair", () -> told(0, 20, 0, 21, pair[0], pair[1]));
            edges.still("not taken", x -> x.day(2, 1, 0, 2, 1), Edges.NONE);
            edges.still("taken, " + pair[0] + " and " + pair[1], x -> x.day(2, 1, 0, 3, 1), Edges.OUTSIDE);
        }
        for (int second = 20; second < 23; second++) {
            int act = second;
            edges.ofFaulting("14 the second is 20 .. 22", () -> told(0, act));
            edges.still("second " + second, x -> x.day(2, 1, 0, 1, 1), Edges.NONE);
        }
        edges.ofFaulting("14 a row of ints is not cut", () -> {
            FontRuns x = behind(2);
            Due.row(x, 2, 2, 65536, 20, 0, 65536 + 20);
            return x;
        });
        edges.still("first", x -> x.day(2, 2, 0, 1, 1), Edges.OUTSIDE);
        edges.still("second", x -> x.day(2, 2, 2, 1, 1), Edges.OUTSIDE);
    }

    private static void order() {
        edges.ofFaulting("14 the first that is told", () -> told(14, 21, 0, 23, 16, 20));
        edges.still("UNKNOWN, OUTSIDE lane", x -> x.day(4, 3, 0, 0, 0), Edges.UNKNOWN);
        edges.still("UNKNOWN, OUTSIDE n", x -> x.day(-1, 0, 0, 21, 0), Edges.UNKNOWN);
        edges.still("UNKNOWN, OUTSIDE what", x -> x.day(-1, 0, 0, 0, 5), Edges.UNKNOWN);
        edges.still("OUTSIDE lane, NULL", x -> x.day(3, 3, 0, 0, 0), Edges.OUTSIDE);
        edges.still("OUTSIDE n, NULL", x -> x.day(3, 0, 0, -1, 0), Edges.OUTSIDE);
        edges.still("OUTSIDE n, INDEX", x -> x.day(2, 1, 0, 21, 0), Edges.OUTSIDE);
        edges.still("OUTSIDE what, NULL", x -> x.day(3, 0, 0, 0, 9), Edges.OUTSIDE);
        edges.still("OUTSIDE what, CAST", x -> x.day(2, 0, 0, 0, 14), Edges.OUTSIDE);
        edges.still("OUTSIDE what, INDEX", x -> x.day(2, 1, 7, 0, -1), Edges.OUTSIDE);
        edges.faults("NULL, INDEX", x -> x.day(3, 0, -1, 0, 0), Edges.NULL);
        edges.faults("CAST, INDEX", x -> x.day(2, 0, 7, 0, 0), Edges.CAST);
        edges.faults("CAST, OUTSIDE pair", x -> x.day(2, 2, 2, 1, 0), Edges.CAST);
        edges.faults("INDEX, OUTSIDE pair", x -> x.day(2, 1, 2, 3, 0), Edges.INDEX);
        edges.faults("INDEX, FIRST WRONG", x -> x.day(2, 1, 0, 4, 0), Edges.INDEX);
    }

    private static void withoutFonts() {
        edges.ofFaulting("14 STATE: there are no FONTS", Edges::fontless);
        edges.still("some", x -> x.day(2, 1, 0, 3, 0), Edges.STATE);
        edges.still("none", x -> x.day(2, 1, 0, 0, 1), Edges.STATE);
        edges.still("a place", x -> x.day(2, 1, 0, 0, 10), Edges.STATE);
        edges.still("STATE, OUTSIDE pair", x -> x.day(2, 1, 1, 1, 0), Edges.STATE);
        edges.still("UNKNOWN, STATE", x -> x.day(4, 1, 0, 0, 0), Edges.UNKNOWN);
        edges.still("OUTSIDE n, STATE", x -> x.day(2, 1, 0, 21, 0), Edges.OUTSIDE);
        edges.still("OUTSIDE what, STATE", x -> x.day(2, 1, 0, 0, 5), Edges.OUTSIDE);
        edges.faults("NULL, STATE", x -> x.day(3, 1, 0, 0, 0), Edges.NULL);
        edges.faults("CAST, STATE", x -> x.day(2, 0, 0, 0, 0), Edges.CAST);
        edges.faults("INDEX, STATE", x -> x.day(2, 1, 0, 4, 0), Edges.INDEX);
    }

    private static void firstWrong() {
        for (int what : WHATS) {
            edges.ofFaulting("14 of one with a FIRST WRONG: -100 less that (but what 1)", () -> behind(5, pairs(20, 0, 20)));
            edges.still("the twentieth, what " + what, x -> x.day(2, 1, 0, 20, what), what == 1 ? 19 : -119);
            edges.ofFaulting("14 FIRST WRONG at once", () -> behind(5, 6, 21, 0, 20));
            edges.still("the first, what " + what, x -> x.day(2, 1, 0, 2, what), what == 1 ? 0 : -100);
            edges.ofFaulting("14 of several the first", () -> behind(5, 5, 21, 1, 21, 3, 22, 9, 21));
            edges.still("the second, what " + what, x -> x.day(2, 1, 0, 4, what), what == 1 ? 1 : -101);
        }
        edges.ofFaulting("14 FIRST WRONG: NONE", () -> behind(4, pairs(20, 0, 20)));
        edges.still("twenty that can be", x -> x.day(2, 1, 0, 20, 1), Edges.NONE);
        edges.still("none", x -> x.day(2, 1, 0, 0, 1), Edges.NONE);
    }

    /** A refusal is told ahead of any answer, so it holds for pairs behind the FIRST WRONG, too. */
    private static void outsideBehindFirstWrong() {
        edges.ofFaulting("14 pair by pair OUTSIDE", () -> told(14, 21, 0, 23));
        for (int what : WHATS) {
            edges.still("what " + what, x -> x.day(2, 1, 0, 2, what), Edges.OUTSIDE);
        }
    }

    private static void leastAndMostAnswers() {
        edges.ofFaulting("14 of nothing", () -> behind(0, 11, 20));
        for (int what : new int[] {0, 2, 3, 4}) {
            edges.still("none, what " + what, x -> x.day(2, 1, 0, 0, what), 0);
        }
        int[] box = {0, Edges.NONE, 1, 1, 1};
        for (int each = 0; each < 5; each++) {
            int what = each;
            edges.still("a box, what " + what, x -> x.day(2, 1, 0, 1, what), box[what]);
        }
        edges.ofFaulting("14 of all", () -> behind(24));
        int[] most = {23, Edges.NONE, 24, 0, 12 + 12 * 18};
        for (int each = 0; each < 5; each++) {
            int what = each;
            edges.still("24, what " + what, x -> x.day(2, 1, 0, 0, what), most[what]);
        }
        edges.ofFaulting("14 the farthest", () -> {
            FontRuns x = Due.withWriting("f;C9a", Edges.all(24, 3));
            x.sheet(2, 1, 0);
            return x;
        });
        edges.still("24 boxes", x -> x.day(2, 1, 0, 0, 3), 24);
        edges.still("ADVANCE", x -> x.day(2, 1, 0, 0, 4), 432);
    }

    /** What a day tells is what would be answered if all of it were done. */
    private static void asIfItWere() {
        due.begin("14 from how all is now");
        int[] acts = {2, 21, 3, 22, 15, 20, 6, 20, 0, 22, 5, 21, 3, 20, 12, 20, 2, 22};
        FontRuns done = Edges.lived();
        FontRuns told = told(acts);
        for (int n = 0; n <= acts.length / 2; n++) {
            if (n > 0) {
                act(done, acts[2 * n - 2], acts[2 * n - 1]);
            }
            int[] want = {done.best(0), Edges.NONE, done.many(2), done.best(2), done.best(3),
                done.ofFont(0, 4), done.ofFont(1, 4), done.ofFont(2, 4), done.ofFont(3, 4)};
            for (int w = 0; w < WHATS.length; w++) {
                due.is("behind " + n + " acts, what " + WHATS[w], told.day(2, 1, 0, n, WHATS[w]), want[w]);
            }
        }
    }

    private static void act(FontRuns x, int first, int second) {
        if (second == 20) {
            Due.written(x, first);
        } else if (second == 21) {
            x.erase(first);
        } else {
            x.prefer(first);
        }
    }
}
