/** Promises 1 to 4, sentence by sentence: where a number, a TEXT or a row is just taken and just not. */
public final class FontsEdgesTest {
    private static final Edges edges = new Edges();
    private static final Due due = edges.due;
    private static final String LONGEST = "f;A1abcdefgh;B2ijklmnop;C3acegikmo;A9bdfhjlnp";

    public static void main(String[] args) {
        newHasNoFonts();
        newHasNoWriting();
        newHasNoSheets();
        newCountsFromNought();
        anotherBeginsAnew();
        constants();
        textGoesOn();
        textEndsTooSoon();
        textHasOneToFourFonts();
        textIsOfCodesUncut();
        textLiesInARow();
        fontsSheetAndLane();
        fontsFaults();
        fontsOrder();
        wrongTextChangesNothing();
        textMakesAllAnew();
        fewerFontsThanWere();
        ofFontNumbers();
        ofFontSteps();
        ofFontSets();
        ofFontPlaces();
        widthNumbers();
        widthOfOneAlone();
        edges.end();
    }

    // ---- promise 1

    private static void newHasNoFonts() {
        edges.of("1 no FONTS", FontRuns::new);
        edges.still("many", x -> x.many(0), 0);
        edges.still("ofFont", x -> x.ofFont(0, 0), Edges.UNKNOWN);
        edges.still("width", x -> x.width(0, 1), Edges.UNKNOWN);
        edges.still("prefer", x -> x.prefer(0), Edges.UNKNOWN);
        edges.still("latest", x -> x.latest(0), Edges.NONE);
        edges.still("best", x -> x.best(0), Edges.STATE);
        edges.still("without", x -> x.without(0), Edges.UNKNOWN);
        edges.still("enough", x -> x.enough(0), Edges.STATE);
        edges.still("reading", x -> x.reading(0), Edges.STATE);
        edges.still("kinds", x -> x.kinds(0), Edges.UNKNOWN);
        edges.still("widths", x -> x.widths(0), Edges.UNKNOWN);
        edges.still("odds", x -> x.odds(0, 0), Edges.LOST);
        edges.still("tell", x -> x.tell(0), Edges.UNKNOWN);
        edges.still("sample", x -> x.sample(0), Edges.UNKNOWN);
        edges.ofFaulting("1 no FONTS", FontRuns::new);
        edges.still("as", x -> x.as(0, 0), Edges.UNKNOWN);
    }

    private static void newHasNoWriting() {
        edges.of("1 no WRITING", FontRuns::new);
        edges.still("letters", x -> x.many(1), 0);
        edges.still("clusters", x -> x.many(2), 0);
        edges.still("letter", x -> x.letter(0), Edges.UNKNOWN);
        edges.still("ofCluster", x -> x.ofCluster(0, 0), Edges.UNKNOWN);
        edges.still("ofRun", x -> x.ofRun(0, 0), Edges.UNKNOWN);
        edges.still("erase none", x -> x.erase(0), 0);
        edges.still("erase one", x -> x.erase(1), Edges.OUTSIDE);
        edges.still("readings", x -> x.many(3), 0);
        edges.still("back none", x -> x.back(0), 0);
        edges.still("back one", x -> x.back(1), Edges.OUTSIDE);
    }

    private static void newHasNoSheets() {
        for (int sheet = 0; sheet < 4; sheet++) {
            int k = sheet;
            edges.of("1 SHEET " + k + " has nothing", FontRuns::new);
            edges.still("lose", x -> x.lose(k), 0);
            edges.ofFaulting("1 SHEET " + k + " has nothing", FontRuns::new);
            edges.faults("put", x -> x.put(k, 0, 0), Edges.NULL);
            edges.faults("copy", x -> x.copy(k, 0, k, 0, 0), Edges.NULL);
            for (int each = 0; each < 3; each++) {
                int lane = each;
                edges.lost("cell", x -> x.cell(k, 0, lane), Edges.NULL);
                edges.faults("fonts", x -> x.fonts(k, lane, 0, 0), Edges.NULL);
                edges.faults("write", x -> x.write(k, lane, 0, 0), Edges.NULL);
                edges.faults("day", x -> x.day(k, lane, 0, 0, 0), Edges.NULL);
            }
        }
    }

    private static void newCountsFromNought() {
        due.begin("1 0 at first");
        FontRuns x = new FontRuns();
        due.is("fault", x.fault(), 0);
        due.is("tally", x.tally(), 0);
        due.is("check", x.check(), 0);
        due.is("trace", x.trace(), 0);
    }

    private static void anotherBeginsAnew() {
        due.begin("1 whoever makes a new one begins all anew");
        String first = Seen.of(new FontRuns());
        FontRuns used = Edges.lived();
        used.put(3, 0, 0);
        FontRuns x = new FontRuns();
        due.is("fault", x.fault(), 0);
        due.same("as the first one was", Seen.of(x), first);
    }

    private static void constants() {
        due.begin("1 constants");
        due.is("UNKNOWN", FontRuns.UNKNOWN, -1);
        due.is("OUTSIDE", FontRuns.OUTSIDE, -2);
        due.is("STATE", FontRuns.STATE, -3);
        due.is("FULL", FontRuns.FULL, -4);
        due.is("NONE", FontRuns.NONE, -9);
        due.is("LOST", FontRuns.LOST, Long.MIN_VALUE);
    }

    // ---- promise 2

    private static int toldIn(int lane, int... codes) {
        FontRuns x = new FontRuns();
        Due.row(x, 0, lane, codes);
        return x.fonts(0, lane, 0, codes.length);
    }

    /** Each code there is, behind codes with which a TEXT begins: those that it goes on with, all others not. */
    private static void nextOf(String head, String goesOn) {
        int[] codes = java.util.Arrays.copyOf(head.chars().toArray(), head.length() + 1);
        for (int code = -300; code <= 400; code++) {
            codes[head.length()] = code;
            boolean taken = code > 0 && goesOn.indexOf(code) >= 0;
            boolean whole = taken && head.length() > 3 && code >= 'a';
            int fonts = (int) head.chars().filter(c -> c == ';').count();
            int want = whole ? fonts : -100 - head.length() - (taken ? 1 : 0);
            due.is("code " + code + " behind " + head, toldIn(2, codes), want);
        }
        for (int code : new int[] {Edges.MIN, Edges.MAX, 'f' + 65536, ';' + 65536, 'a' + 65536, 'A' - 65536, '1' + 65536}) {
            codes[head.length()] = code;
            due.is("code " + code + " behind " + head, toldIn(2, codes), -100 - head.length());
        }
    }

    private static void textGoesOn() {
        due.begin("2 FIRST FAULT: the first code with which no TEXT goes on");
        nextOf("", "f");
        nextOf("f", ";");
        nextOf("f;", "ABC");
        nextOf("f;A", "123456789");
        nextOf("f;B", "123456789");
        nextOf("f;C", "123456789");
        nextOf("f;A1", "abcdefghijklmnop");
        nextOf("f;C9c", ";abdefghijklmnop");
        nextOf("f;A1p", ";abcdefghijklmno");
        nextOf("f;A1a", ";bcdefghijklmnop");
        nextOf("f;A1abcdefg", ";hijklmnop");
        nextOf("f;A1abcdefgh", ";");
        nextOf("f;A1ijklmnop", ";");
        nextOf("f;A1a;", "ABC");
        nextOf("f;A1a;B", "123456789");
        nextOf("f;A1a;B2", "abcdefghijklmnop");
        nextOf("f;A1a;B2a", ";bcdefghijklmnop");
        nextOf("f;A1a;B2b;C3c", ";abdefghijklmnop");
        nextOf("f;A1a;B2b;C3c;", "ABC");
        nextOf("f;A1a;B2b;C3c;A4d", "abcefghijklmnop");
        nextOf("f;A1a;B2b;C3c;A4abcdefgh", "");
        nextOf(LONGEST, "");
    }

    private static void textEndsTooSoon() {
        due.begin("2 FIRST FAULT: how many codes there are, if it just ends too soon");
        int fonts = 0;
        for (int n = 0; n <= LONGEST.length(); n++) {
            String text = LONGEST.substring(0, n);
            boolean whole = n > 4 && text.charAt(n - 1) >= 'a';
            if (n > 0 && text.charAt(n - 1) == ';') {
                fonts++;
            }
            due.is(text, toldIn(0, text.chars().toArray()), whole ? fonts : -100 - n);
        }
        due.begin("2 FIRST FAULT: of several the first");
        due.is("two wrong codes", toldIn(0, "f;D1aa".chars().toArray()), -102);
        due.is("a wrong code, and too soon", toldIn(0, "f;A1aa;".chars().toArray()), -105);
    }

    private static void textHasOneToFourFonts() {
        due.begin("2 1 to 4 FONTS");
        String text = "f";
        for (int n = 1; n <= 4; n++) {
            text += ";A1a";
            due.is(n + " fonts", toldIn(1, text.chars().toArray()), n);
            FontRuns x = Due.withFonts(text);
            due.is("many", x.many(0), n);
            due.is("the last one", x.ofFont(n - 1, 3), 1);
            due.is("none behind it", x.ofFont(n, 3), Edges.UNKNOWN);
        }
        due.is("5 fonts", toldIn(1, (text + ";A1a").chars().toArray()), -117);
        due.is("the longest", toldIn(0, LONGEST.chars().toArray()), 4);
        due.begin("2 1 to 8 codes: unlike LETTERS");
        due.is("none", toldIn(0, "f;A1;A1a".chars().toArray()), -104);
        due.is("8", toldIn(0, "f;A1hgfedcba".chars().toArray()), 1);
        due.is("a ninth", toldIn(0, "f;A1hgfedcbai".chars().toArray()), -112);
        due.is("a ninth that it has already", toldIn(0, "f;A1hgfedcbah".chars().toArray()), -112);
        due.is("one that it has already", toldIn(0, "f;A1hgfh".chars().toArray()), -107);
        due.is("one that another has", toldIn(0, "f;A1hgf;A1h".chars().toArray()), 2);
    }

    private static void textIsOfCodesUncut() {
        due.begin("2 cells taken as a row of a LANE");
        for (int lane = 0; lane < 3; lane++) {
            due.is("lane " + lane, toldIn(lane, "f;B3dp".chars().toArray()), 1);
        }
        due.is("cut as it came to the cell, bytes", toldIn(0, 'f' + 256, ';' - 256, 'A' + 512, '1', 'a' + 65536), 1);
        due.is("cut as it came to the cell, shorts", toldIn(1, 'f' + 65536, ';' - 65536, 'A', '1', 'a'), 1);
        due.is("not cut to a byte", toldIn(1, 'f' + 256), -100);
        due.is("not cut to a short", toldIn(2, 'f' + 65536), -100);
        due.is("below 0", toldIn(0, 'f', ';' + 128), -101);
    }

    private static FontRuns sixtyCells() {
        FontRuns x = new FontRuns();
        x.sheet(0, 1, 60);
        String text = "f;C7p";
        for (int i = 0; i < text.length(); i++) {
            x.put(0, i, text.charAt(i));
            x.put(0, 55 + i, text.charAt(i));
        }
        x.sheet(1, 1, 0);
        return x;
    }

    private static void textLiesInARow() {
        edges.ofFaulting("2 n cells of a SHEET from i on", FontsEdgesTest::sixtyCells);
        edges.answers("the first cells", x -> x.fonts(0, 1, 0, 5), 1);
        edges.answers("the last cells", x -> x.fonts(0, 1, 55, 5), 1);
        edges.still("one cell more is a wrong code", x -> x.fonts(0, 1, 0, 6), -105);
        edges.still("one cell less", x -> x.fonts(0, 1, 55, 4), -104);
        edges.still("places are the TEXT's", x -> x.fonts(0, 1, 54, 6), -100);
        edges.still("none at the head", x -> x.fonts(0, 1, 0, 0), -100);
        edges.still("none at the end", x -> x.fonts(0, 1, 60, 0), -100);
        edges.still("none of a row of none", x -> x.fonts(1, 1, 0, 0), -100);
        edges.still("all sixty", x -> x.fonts(0, 1, 0, 60), -105);
        edges.faults("one beyond the end", x -> x.fonts(0, 1, 55, 6), Edges.INDEX);
        edges.faults("sixty-one", x -> x.fonts(0, 1, 0, 61), Edges.INDEX);
        edges.faults("one at the end", x -> x.fonts(0, 1, 60, 1), Edges.INDEX);
        edges.faults("none beyond the end", x -> x.fonts(0, 1, 61, 0), Edges.INDEX);
        edges.faults("none ahead of the head", x -> x.fonts(0, 1, -1, 0), Edges.INDEX);
        edges.faults("some ahead of the head", x -> x.fonts(0, 1, -1, 5), Edges.INDEX);
        edges.faults("one of a row of none", x -> x.fonts(1, 1, 0, 1), Edges.INDEX);
        edges.faults("none beyond a row of none", x -> x.fonts(1, 1, 1, 0), Edges.INDEX);
        edges.faults("the most", x -> x.fonts(0, 1, 0, Edges.MAX), Edges.INDEX);
        edges.faults("a sum that wraps", x -> x.fonts(0, 1, 1, Edges.MAX), Edges.INDEX);
        edges.faults("a sum that wraps to 0", x -> x.fonts(0, 1, Edges.MIN, Edges.MAX), Edges.INDEX);
        edges.faults("i the most", x -> x.fonts(0, 1, Edges.MAX, 0), Edges.INDEX);
        edges.faults("i the least", x -> x.fonts(0, 1, Edges.MIN, 0), Edges.INDEX);
        edges.faults("n -1", x -> x.fonts(0, 1, 0, -1), Edges.SIZE);
        edges.faults("n the least", x -> x.fonts(0, 1, 0, Edges.MIN), Edges.SIZE);
    }

    private static void fontsSheetAndLane() {
        for (int each = 0; each < 4; each++) {
            int k = each;
            due.begin("2 SHEETS 0 .. 3");
            FontRuns x = new FontRuns();
            Due.row(x, k, 0, "f;A1a".chars().toArray());
            due.is("sheet " + k, x.fonts(k, 0, 0, 5), 1);
        }
        edges.ofFaulting("2 UNKNOWN; OUTSIDE: lane", Edges::lived);
        for (int k : new int[] {-1, 4, Edges.MIN, Edges.MAX}) {
            edges.still("sheet " + k, x -> x.fonts(k, 0, 0, 32), Edges.UNKNOWN);
        }
        for (int lane : new int[] {-1, 3, Edges.MIN, Edges.MAX}) {
            edges.still("lane " + lane, x -> x.fonts(0, lane, 0, 32), Edges.OUTSIDE);
        }
    }

    private static void fontsFaults() {
        edges.ofFaulting("2 CAST, NULL", FontsEdgesTest::aRowOfEachLane);
        for (int each = 0; each < 9; each++) {
            int k = each / 3, lane = each % 3;
            if (k == lane) {
                edges.answers("row of " + k + " as it is", x -> x.fonts(k, lane, 0, 5), 1);
            } else {
                edges.faults("row of " + k + " as of " + lane, x -> x.fonts(k, lane, 0, 5), Edges.CAST);
            }
        }
        for (int each = 0; each < 3; each++) {
            int lane = each;
            edges.faults("nothing is no CAST, lane " + lane, x -> x.fonts(3, lane, 0, 5), Edges.NULL);
        }
    }

    private static FontRuns aRowOfEachLane() {
        FontRuns x = new FontRuns();
        for (int k = 0; k < 3; k++) {
            Due.row(x, k, k, "f;A1a".chars().toArray());
        }
        return x;
    }

    private static void fontsOrder() {
        edges.ofFaulting("2 the first that is told", Edges::lived);
        edges.still("UNKNOWN, OUTSIDE", x -> x.fonts(4, 3, 0, 0), Edges.UNKNOWN);
        edges.still("UNKNOWN, SIZE", x -> x.fonts(-1, 0, 0, -1), Edges.UNKNOWN);
        edges.still("UNKNOWN, INDEX", x -> x.fonts(-1, 0, -1, 0), Edges.UNKNOWN);
        edges.still("OUTSIDE, NULL", x -> x.fonts(3, 3, 0, 0), Edges.OUTSIDE);
        edges.still("OUTSIDE, SIZE", x -> x.fonts(0, -1, 0, -1), Edges.OUTSIDE);
        edges.still("OUTSIDE, INDEX", x -> x.fonts(0, -1, 33, 1), Edges.OUTSIDE);
        edges.faults("NULL, SIZE", x -> x.fonts(3, 0, 0, -1), Edges.NULL);
        edges.faults("NULL, INDEX", x -> x.fonts(3, 0, -1, 1), Edges.NULL);
        edges.faults("CAST, SIZE", x -> x.fonts(0, 1, 0, -1), Edges.CAST);
        edges.faults("CAST, INDEX", x -> x.fonts(0, 2, 33, 1), Edges.CAST);
        edges.faults("CAST, a wrong TEXT", x -> x.fonts(1, 0, 0, 13), Edges.CAST);
        edges.faults("SIZE, INDEX ahead", x -> x.fonts(0, 0, -1, -1), Edges.SIZE);
        edges.faults("SIZE, INDEX beyond", x -> x.fonts(0, 0, 33, -1), Edges.SIZE);
        edges.faults("INDEX, a wrong TEXT", x -> x.fonts(1, 2, 0, 14), Edges.INDEX);
    }

    private static void wrongTextChangesNothing() {
        edges.ofFaulting("2 a TEXT that is not taken", Edges::lived);
        edges.still("wrong at once", x -> x.fonts(1, 2, 0, 13), -100);
        edges.still("empty", x -> x.fonts(0, 0, 0, 0), -100);
        for (int each = 1; each < 32; each++) {
            int n = each;
            char last = Due.FOUR.charAt(n - 1);
            if (n < 5 || last < 'a') {
                edges.still("too soon, " + n, x -> x.fonts(0, 0, 0, n), -100 - n);
            }
        }
        edges.ofFaulting("2 a TEXT that is not taken, no FONTS", Edges::fontless);
        edges.still("too soon", x -> x.fonts(0, 0, 0, 4), -104);
        edges.still("too soon", x -> x.fonts(0, 0, 0, 10), -110);
    }

    private static void textMakesAllAnew() {
        due.begin("2 a TEXT that is taken makes all anew");
        FontRuns x = Edges.lived();
        int tally = x.tally(), trace = x.trace();
        long check = x.check();
        due.is("the same TEXT", x.fonts(0, 0, 0, 32), 4);
        due.is("letters", x.many(1), 0);
        due.is("clusters", x.many(2), 0);
        due.is("letter", x.letter(0), Edges.UNKNOWN);
        due.is("cluster", x.ofCluster(0, 0), Edges.UNKNOWN);
        due.is("run", x.ofRun(0, 0), Edges.UNKNOWN);
        due.is("erase", x.erase(1), Edges.OUTSIDE);
        due.is("enough", x.enough(1), 0);
        for (int what = 0; what < 4; what++) {
            due.is("best " + what, x.best(what), 0);
        }
        for (int f = 0; f < 4; f++) {
            due.is("place of " + f, x.ofFont(f, 4), f);
            due.is("kinds of " + f, x.kinds(f), 7);
            due.is("widths of " + f, x.widths(f), 1022);
        }
        for (int k = 0; k < 5; k++) {
            due.is("latest " + k, x.latest(k), Edges.NONE);
        }
        due.is("width as told", x.ofFont(3, 1), 9);
        due.is("readings", x.many(3), 0);
        due.is("back", x.back(1), Edges.OUTSIDE);
        due.is("the next reading", x.reading(0), 0);
        due.is("TALLY stays", x.tally(), tally);
        due.is("CHECK stays", x.check(), check);
        due.is("TRACE stays", x.trace(), trace);
        due.is("rows stay", x.cell(1, 1, 2), 12);
        due.is("nothing stays nothing", x.lose(3), 0);
    }

    private static void fewerFontsThanWere() {
        due.begin("2 fewer FONTS than there were");
        FontRuns x = Edges.lived();
        due.is("one", x.fonts(0, 0, 0, 9), 1);
        due.is("many", x.many(0), 1);
        due.is("its letters", x.ofFont(0, 3), 12295);
        for (int f = 1; f < 4; f++) {
            due.is("ofFont " + f, x.ofFont(f, 0), Edges.UNKNOWN);
            due.is("prefer " + f, x.prefer(f), Edges.UNKNOWN);
            due.is("place of " + f + " in a day", x.day(2, 1, 0, 0, 10 + f), Edges.NONE);
            x.put(2, 4, f);
            due.is(f + " preferred in a day", x.day(2, 1, 4, 1, 1), 0);
        }
        Due.written(x, 3, 0, 6);
        due.is("what the others had is a box", x.best(2), 2);
        due.is("all in the one", x.best(0), 0);
        due.is("more again", Due.told(x, Due.FOUR), 4);
        due.is("place", x.ofFont(3, 4), 3);
    }

    // ---- promise 3

    private static void ofFontNumbers() {
        edges.of("3 UNKNOWN; OUTSIDE", Edges::lived);
        edges.still("font 0", x -> x.ofFont(0, 1), 3);
        edges.still("font 3", x -> x.ofFont(3, 1), 8);
        for (int f : new int[] {-1, 4, Edges.MIN, Edges.MAX}) {
            edges.still("font " + f, x -> x.ofFont(f, 0), Edges.UNKNOWN);
            edges.still("UNKNOWN, OUTSIDE", x -> x.ofFont(f, 5), Edges.UNKNOWN);
        }
        for (int what : new int[] {-1, 5, Edges.MIN, Edges.MAX}) {
            edges.still("what " + what, x -> x.ofFont(0, what), Edges.OUTSIDE);
        }
        edges.of("3 UNKNOWN, of one FONT", () -> Due.withFonts("f;A1a"));
        edges.still("font 0", x -> x.ofFont(0, 0), 0);
        edges.still("font 1", x -> x.ofFont(1, 0), Edges.UNKNOWN);
        edges.of("3 UNKNOWN, no FONTS", FontRuns::new);
        edges.still("font 0, what -1", x -> x.ofFont(0, -1), Edges.UNKNOWN);
    }

    private static void ofFontSteps() {
        due.begin("3 kind, WIDTH, STEP");
        for (int w = 1; w <= 9; w++) {
            int[] steps = {w, w + 1, 2 * w};
            for (int kind = 0; kind < 3; kind++) {
                FontRuns x = Due.withFonts("f;" + "ABC".charAt(kind) + w + "a");
                due.is("kind", x.ofFont(0, 0), kind);
                due.is("WIDTH", x.ofFont(0, 1), w);
                due.is("STEP of kind " + kind + ", width " + w, x.ofFont(0, 2), steps[kind]);
            }
        }
    }

    private static void ofFontSets() {
        due.begin("3 LETTERS that it HAS");
        for (int l = 0; l < 16; l++) {
            FontRuns x = Due.withFonts("f;A1" + (char) ('a' + l));
            due.is("letter " + l, x.ofFont(0, 3), 1 << l);
        }
        FontRuns x = Due.withFonts(LONGEST);
        int[] sets = {0xff, 0xff00, 0x5555, 0xaaaa};
        for (int f = 0; f < 4; f++) {
            due.is("eight of " + f, x.ofFont(f, 3), sets[f]);
        }
    }

    private static void ofFontPlaces() {
        due.begin("3 its place in PREFERENCE");
        FontRuns x = Due.withFonts(Due.FOUR);
        int[][] places = {{0, 1, 2, 3}, {1, 2, 3, 0}, {2, 3, 0, 1}, {3, 0, 1, 2}, {0, 1, 2, 3}};
        for (int n = 0; n < places.length; n++) {
            for (int f = 0; f < 4; f++) {
                due.is("behind " + n + " times, of " + f, x.ofFont(f, 4), places[n][f]);
            }
            x.prefer(3 - n % 4);
        }
    }

    // ---- promise 4

    private static void widthNumbers() {
        edges.of("4 v (1 .. 9)", Edges::lived);
        edges.answers("1", x -> x.width(0, 1), 3);
        edges.answers("9", x -> x.width(0, 9), 3);
        edges.answers("font 3", x -> x.width(3, 1), 8);
        edges.still("what it is already", x -> x.width(3, 8), 8);
        for (int v : new int[] {0, 10, -1, Edges.MIN, Edges.MAX}) {
            edges.still("" + v, x -> x.width(0, v), Edges.OUTSIDE);
        }
        for (int f : new int[] {-1, 4, Edges.MIN, Edges.MAX}) {
            edges.still("font " + f, x -> x.width(f, 5), Edges.UNKNOWN);
            edges.still("UNKNOWN, OUTSIDE", x -> x.width(f, 10), Edges.UNKNOWN);
        }
        edges.of("4 UNKNOWN, of one FONT", () -> Due.withFonts("f;A1a"));
        edges.still("font 1", x -> x.width(1, 5), Edges.UNKNOWN);
    }

    private static void widthOfOneAlone() {
        due.begin("4 WIDTH of a FONT becomes v");
        FontRuns x = Edges.lived();
        int advance = x.best(3), changes = x.best(0);
        for (int v = 9; v >= 1; v--) {
            x.width(2, v);
            due.is("WIDTH", x.ofFont(2, 1), v);
            due.is("STEP", x.ofFont(2, 2), 2 * v);
            due.is("ADVANCE", x.best(3), advance + (v - 4) * 2 * 3);
            due.is("CHANGES stay", x.best(0), changes);
            due.is("kind stays", x.ofFont(2, 0), 2);
        }
        due.is("another one", x.ofFont(0, 1), 3);
        due.is("another one", x.ofFont(1, 1), 2);
        due.is("another one", x.ofFont(3, 1), 8);
    }
}
