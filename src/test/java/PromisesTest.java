/** Each promise of the document: ordinary inputs, its edges, wrong inputs in the order told. */
public final class PromisesTest {
    private static final Due due = new Due();
    private static final long LOST = Long.MIN_VALUE;
    private static final int MIN = Integer.MIN_VALUE, MAX = Integer.MAX_VALUE;

    public static void main(String[] args) {
        newObject();
        fontsTexts();
        fontsRefusals();
        fontsBeginAnew();
        ofFont();
        width();
        write();
        writeRefusals();
        erase();
        letter();
        ofCluster();
        bestByPreference();
        ofRun();
        prefer();
        latest();
        tallyAndCheck();
        day();
        dayRefusals();
        best();
        without();
        enough();
        reading();
        back();
        kinds();
        widths();
        readingsStay();
        odds();
        sheet();
        lose();
        put();
        cell();
        copy();
        tell();
        sample();
        as();
        fault();
        many();
        due.end();
    }

    private static void newObject() {
        due.begin("1 new");
        FontRuns x = new FontRuns();
        for (int what = 0; what < 4; what++) {
            due.is("many", x.many(what), 0);
        }
        for (int k = 0; k < 4; k++) {
            due.is("lose", x.lose(k), 0);
        }
        due.is("tally", x.tally(), 0);
        due.is("check", x.check(), 0);
        due.is("trace", x.trace(), 0);
        due.is("fault", x.fault(), 0);
        due.is("latest", x.latest(0), FontRuns.NONE);
        Due.withWriting(Due.FOUR, 1, 2).tell(0);
        x = new FontRuns();
        due.is("tally of another", x.tally(), 0);
        due.is("trace of another", x.trace(), 0);
        due.is("fonts of another", x.many(0), 0);
    }

    private static void text(String text, int want) {
        due.is("fonts of " + text, Due.told(new FontRuns(), text), want);
    }

    private static void fontsTexts() {
        due.begin("2 fonts");
        text("f;A1a", 1);
        text("f;C9p", 1);
        text("f;A3abcdefgh", 1);
        text("f;A3ijklmnop;B1a", 2);
        text("f;A3a;A3a;A3a", 3);
        text(Due.FOUR, 4);
        text("f;A1abcdefgh;B2abcdefgh;C3abcdefgh;A4abcdefgh", 4);
        text("", -100);
        text("g", -100);
        text(";A1a", -100);
        text("f", -101);
        text("fA", -101);
        text("f;", -102);
        text("f;D", -102);
        text("f;@", -102);
        text("f;a", -102);
        text("f;;", -102);
        text("f;A", -103);
        text("f;A0", -103);
        text("f;A:", -103);
        text("f;Aa", -103);
        text("f;A1", -104);
        text("f;A1;", -104);
        text("f;A1`", -104);
        text("f;A1q", -104);
        text("f;A12", -104);
        text("f;A1aa", -105);
        text("f;A1aA", -105);
        text("f;A1abca", -107);
        text("f;A1abcdefghi", -112);
        text("f;A1abcdefgha", -112);
        text("f;A1abcdefgh;", -113);
        text("f;A1a;", -106);
        text("f;A1a;B", -107);
        text("f;A1a;B2", -108);
        text("f;A1a;B2;", -108);
        text("f;A1a;B2a;C3a;A4a;", -117);
        text("f;A1a;B2a;C3a;A4a;A5a", -117);
        text("f;A1abcdefgh;B2abcdefgh;C3abcdefgh;A4abcdefghi", -145);
        text("f;A1abcdefgh;B2abcdefgh;C3abcdefgh;A4abcdefgh;", -145);
    }

    private static void fontsRefusals() {
        due.begin("2 fonts, refusals");
        FontRuns x = new FontRuns();
        Due.row(x, 1, 1, 1, 2, 'f', ';', 'B', '7', 'k', 9);
        due.is("sheet -1, lane 3", x.fonts(-1, 3, 0, 5), FontRuns.UNKNOWN);
        due.is("sheet 4", x.fonts(4, 0, 0, 5), FontRuns.UNKNOWN);
        due.is("lane -1", x.fonts(1, -1, 0, 5), FontRuns.OUTSIDE);
        due.is("lane 3 of nothing", x.fonts(0, 3, 0, 5), FontRuns.OUTSIDE);
        due.is("fault", x.fault(), 0);
        due.is("nothing", x.fonts(0, 0, 0, -1), -11);
        due.is("fault", x.fault(), 1);
        due.is("other lane", x.fonts(1, 2, 0, -1), -12);
        due.is("fault", x.fault(), 2);
        due.is("n -1", x.fonts(1, 1, -1, -1), -14);
        due.is("n least", x.fonts(1, 1, 0, MIN), -14);
        due.is("fault", x.fault(), 4);
        due.is("i -1", x.fonts(1, 1, -1, 0), -13);
        due.is("i beyond", x.fonts(1, 1, 9, 0), -13);
        due.is("n beyond", x.fonts(1, 1, 4, 5), -13);
        due.is("n most", x.fonts(1, 1, 8, MAX), -13);
        due.is("i most, n most", x.fonts(1, 1, MAX, MAX), -13);
        due.is("fault", x.fault(), 3);
        due.is("none from the end on", x.fonts(1, 1, 8, 0), -100);
        due.is("fault of a wrong text", x.fault(), 0);
        due.is("places count from the text's head", x.fonts(1, 1, 2, 6), -105);
        due.is("no fonts yet", x.many(0), 0);
        due.is("within a row", x.fonts(1, 1, 2, 5), 1);
        due.is("kind", x.ofFont(0, 0), 1);
        due.is("width", x.ofFont(0, 1), 7);
        due.is("letters", x.ofFont(0, 3), 1 << 10);
    }

    private static void fontsBeginAnew() {
        due.begin("2 fonts, anew");
        FontRuns x = Due.withWriting(Due.FOUR, 0, 3, 6);
        x.prefer(3);
        x.reading(1);
        x.tell(0);
        long check = x.check();
        due.is("a wrong text", Due.told(x, "f;A"), -103);
        due.is("letters stay then", x.many(1), 3);
        due.is("readings stay then", x.many(3), 1);
        due.is("preference stays then", x.ofFont(3, 4), 0);
        due.is("kind stays then", x.ofFont(2, 0), 2);
        due.is("a right one", Due.told(x, "f;B1a;A2b;A3c;A4d"), 4);
        due.is("letters", x.many(1), 0);
        due.is("clusters", x.many(2), 0);
        due.is("readings", x.many(3), 0);
        due.is("preference", x.ofFont(3, 4), 3);
        due.is("latest", x.latest(0), FontRuns.NONE);
        due.is("runs", x.ofRun(0, 0), FontRuns.UNKNOWN);
        due.is("tally stays", x.tally(), 3);
        due.is("check stays", x.check(), check);
        due.is("trace stays", x.trace(), 1);
        due.is("sheets stay", x.cell(0, 0, 0), 'f');
        Due.told(x, "f;A3a");
        due.is("fewer fonts", x.ofFont(1, 0), FontRuns.UNKNOWN);
    }

    private static void ofFont() {
        due.begin("3 ofFont");
        FontRuns x = Due.withFonts(Due.FOUR);
        int[][] want = {{0, 3, 3, 12295, 0}, {1, 2, 3, 24604, 1}, {2, 4, 8, 36913, 2}, {0, 9, 9, 960, 3}};
        for (int f = 0; f < 4; f++) {
            for (int what = 0; what < 5; what++) {
                due.is("ofFont " + f + " " + what, x.ofFont(f, what), want[f][what]);
            }
            due.is("what 5", x.ofFont(f, 5), FontRuns.OUTSIDE);
            due.is("what -1", x.ofFont(f, -1), FontRuns.OUTSIDE);
        }
        due.is("font 4, what 9", x.ofFont(4, 9), FontRuns.UNKNOWN);
        due.is("font -1", x.ofFont(-1, 0), FontRuns.UNKNOWN);
    }

    private static void width() {
        due.begin("4 width");
        FontRuns x = Due.withWriting(Due.FOUR, 3, 5);
        due.is("to 9", x.width(1, 9), 2);
        due.is("to 1", x.width(1, 1), 9);
        due.is("now", x.ofFont(1, 1), 1);
        due.is("step of a broad one", x.ofFont(1, 2), 2);
        due.is("advance", x.best(3), 10);
        due.is("0", x.width(1, 0), FontRuns.OUTSIDE);
        due.is("10", x.width(1, 10), FontRuns.OUTSIDE);
        due.is("font 4, 10", x.width(4, 10), FontRuns.UNKNOWN);
        due.is("font -1", x.width(-1, 5), FontRuns.UNKNOWN);
        due.is("still", x.ofFont(1, 1), 1);
    }

    private static void write() {
        due.begin("5 write");
        FontRuns x = Due.withFonts(Due.FOUR);
        due.is("13", Due.written(x, Due.MIXED), 13);
        due.is("none", x.write(1, 2, 13, 0), 13);
        due.is("two of a row", x.write(1, 2, 11, 2), 15);
        due.is("letter 13", x.letter(13), 10);
        due.is("letter 14", x.letter(14), 6);
        due.is("clusters", x.many(2), 11);
        due.is("nine more", x.write(1, 2, 0, 9), 24);
        due.is("one more", x.write(1, 2, 0, 1), FontRuns.FULL);
        due.is("none more", x.write(1, 2, 0, 0), 24);
        due.is("tally", x.tally(), 24);
    }

    private static void writeRefusals() {
        due.begin("5 write, refusals");
        FontRuns x = new FontRuns();
        Due.row(x, 1, 2, 1, 2, 16, -1, 15);
        due.is("no fonts", x.write(1, 2, 0, 3), FontRuns.STATE);
        due.is("no fonts, but beyond", x.write(1, 2, 4, 3), -13);
        Due.told(x, Due.FOUR);
        due.is("sheet 4, lane 4", x.write(4, 4, 0, 0), FontRuns.UNKNOWN);
        due.is("sheet -1", x.write(-1, 0, 0, 0), FontRuns.UNKNOWN);
        due.is("lane 3", x.write(2, 3, 0, 0), FontRuns.OUTSIDE);
        due.is("n 25 of nothing", x.write(2, 0, 0, 25), FontRuns.OUTSIDE);
        due.is("n -1", x.write(1, 2, 0, -1), FontRuns.OUTSIDE);
        due.is("fault", x.fault(), 0);
        due.is("nothing", x.write(2, 0, 7, 7), -11);
        due.is("fault", x.fault(), 1);
        due.is("other lane", x.write(1, 0, 7, 7), -12);
        due.is("beyond", x.write(1, 2, 3, 3), -13);
        due.is("i beyond", x.write(1, 2, 6, 0), -13);
        due.is("i -1", x.write(1, 2, -1, 0), -13);
        due.is("i most", x.write(1, 2, MAX, 24), -13);
        due.is("16", x.write(1, 2, 0, 3), FontRuns.OUTSIDE);
        due.is("fault", x.fault(), 0);
        due.is("-1", x.write(1, 2, 3, 2), FontRuns.OUTSIDE);
        due.is("nothing written", x.many(1), 0);
        due.is("tally", x.tally(), 0);
        due.is("check", x.check(), 0);
        due.is("16 right behind", x.write(1, 2, 0, 2), 2);
        due.is("-1 right ahead", x.write(1, 2, 4, 1), 3);
        x.erase(3);
        Due.row(x, 2, 0, new int[24]);
        due.is("24", x.write(2, 0, 0, 24), 24);
        due.is("full, but 16", x.write(1, 2, 2, 1), FontRuns.OUTSIDE);
        due.is("full", x.write(1, 2, 4, 1), FontRuns.FULL);
        due.is("tally", x.tally(), 27);
    }

    private static void erase() {
        due.begin("6 erase");
        FontRuns x = Due.withWriting(Due.FOUR, Due.MIXED);
        due.is("-1", x.erase(-1), FontRuns.OUTSIDE);
        due.is("14", x.erase(14), FontRuns.OUTSIDE);
        due.is("0", x.erase(0), 13);
        due.is("2", x.erase(2), 11);
        due.is("clusters", x.many(2), 7);
        due.is("runs", x.best(1), 3);
        due.is("letter", x.letter(11), FontRuns.UNKNOWN);
        due.is("tally stays", x.tally(), 13);
        due.is("all", x.erase(11), 0);
        due.is("1", x.erase(1), FontRuns.OUTSIDE);
        due.is("clusters", x.many(2), 0);
    }

    private static void letter() {
        due.begin("7 letter");
        FontRuns x = Due.withWriting(Due.FOUR, Due.MIXED);
        for (int k = 0; k < Due.MIXED.length; k++) {
            due.is("letter " + k, x.letter(k), Due.MIXED[k]);
        }
        due.is("13", x.letter(13), FontRuns.UNKNOWN);
        due.is("-1", x.letter(-1), FontRuns.UNKNOWN);
        due.is("most", x.letter(MAX), FontRuns.UNKNOWN);
    }

    private static void ofCluster() {
        due.begin("8 ofCluster");
        FontRuns x = Due.withWriting(Due.FOUR, Due.MIXED);
        int[][] want = {{0, 2, 5, 0, 0}, {2, 2, 3, 0, 0}, {4, 1, 1, 0, 0}, {5, 1, 2, 1, 1}, {6, 2, 2, 1, 1},
            {8, 1, 4, 2, 2}, {9, 2, 4, 2, 2}, {11, 1, 0, 2, 2}, {12, 1, 8, 3, 3}};
        for (int k = 0; k < want.length; k++) {
            for (int what = 0; what < 5; what++) {
                due.is("ofCluster " + k + " " + what, x.ofCluster(k, what), want[k][what]);
            }
        }
        due.is("what 5", x.ofCluster(0, 5), FontRuns.OUTSIDE);
        due.is("what -1", x.ofCluster(0, -1), FontRuns.OUTSIDE);
        due.is("cluster 9, what 5", x.ofCluster(9, 5), FontRuns.UNKNOWN);
        due.is("cluster -1", x.ofCluster(-1, 0), FontRuns.UNKNOWN);
        x = Due.withWriting(Due.FOUR, 12, 13, 12, 0, 15, 15, 1);
        due.is("marks ahead", x.many(2), 3);
        due.is("their first", x.ofCluster(0, 0), 0);
        due.is("their length", x.ofCluster(0, 1), 3);
        due.is("their fonts", x.ofCluster(0, 2), 1);
        due.is("the next one's first", x.ofCluster(1, 0), 3);
        due.is("the next one's length", x.ofCluster(1, 1), 3);
        due.is("the next one's fonts", x.ofCluster(1, 2), 4);
        x = Due.withWriting(Due.FOUR, 12, 15, 14);
        due.is("marks alone", x.many(2), 1);
        due.is("a box has a font", x.ofCluster(0, 3), 0);
    }

    private static void choice(String name, FontRuns x, int... want) {
        for (int k = 0; k < want.length; k++) {
            due.is(name + ", font of " + k, x.ofCluster(k, 3), want[k]);
        }
        due.is(name + ", clusters", x.many(2), want.length);
    }

    private static void bestByPreference() {
        due.begin("8 BEST");
        // b is in 0 and 1, c in 1 and 2, d in 2 alone, a in 0 alone, l in none.
        FontRuns x = Due.withWriting("f;A1ab;A1bc;A1cd", 0, 1, 2, 3);
        choice("one change lies where it may", x, 0, 0, 2, 2);
        x = Due.withWriting("f;A1ab;A1bc;A1cd", 1, 2, 3);
        choice("the first font stays", x, 0, 2, 2);
        x.prefer(1);
        choice("by preference the second", x, 1, 1, 2);
        x.prefer(0);
        choice("by preference the first", x, 0, 2, 2);
        x = Due.withWriting("f;A1ab;A1bc;A1cd", 11, 2, 11, 1, 11);
        choice("boxes make no change", x, 1, 1, 1, 1, 1);
        x = Due.withWriting("f;A1ab;A1bc;A1cd", 11, 11);
        choice("boxes alone by preference", x, 0, 0);
        x.prefer(2);
        choice("boxes alone by preference", x, 2, 2);
        x = Due.withWriting("f;A1ab;A1bc;A1cd", 0, 11, 3);
        choice("the first, as long as it may", x, 0, 0, 2);
        x.prefer(1);
        choice("no font for a box alone", x, 0, 0, 2);
        x.prefer(2);
        choice("the preferred one from the box on", x, 0, 2, 2);
    }

    private static void ofRun() {
        due.begin("9 ofRun");
        FontRuns x = Due.withWriting(Due.FOUR, Due.MIXED);
        int[][] want = {{0, 0, 3, 9}, {1, 3, 2, 6}, {2, 5, 3, 24}, {3, 8, 1, 9}};
        for (int r = 0; r < 4; r++) {
            for (int what = 0; what < 4; what++) {
                due.is("ofRun " + r + " " + what, x.ofRun(r, what), want[r][what]);
            }
            due.is("what 4", x.ofRun(r, 4), FontRuns.OUTSIDE);
            due.is("what -1", x.ofRun(r, -1), FontRuns.OUTSIDE);
        }
        due.is("run 4, what 4", x.ofRun(4, 4), FontRuns.UNKNOWN);
        due.is("run -1", x.ofRun(-1, 0), FontRuns.UNKNOWN);
        x = Due.withWriting("f;A1a;A1b", 0, 1, 0, 1, 0);
        due.is("a font again", x.ofRun(4, 0), 0);
        due.is("its first cluster", x.ofRun(4, 1), 4);
        due.is("its clusters", x.ofRun(4, 2), 1);
    }

    private static void prefer() {
        due.begin("10 prefer");
        FontRuns x = Due.withFonts(Due.FOUR);
        due.is("2", x.prefer(2), 2);
        due.is("3", x.prefer(3), 3);
        due.is("3 again", x.prefer(3), 0);
        due.is("0", x.prefer(0), 2);
        int[] places = {0, 3, 2, 1};
        for (int f = 0; f < 4; f++) {
            due.is("place of " + f, x.ofFont(f, 4), places[f]);
        }
        due.is("4", x.prefer(4), FontRuns.UNKNOWN);
        due.is("-1", x.prefer(-1), FontRuns.UNKNOWN);
        due.is("latest", x.latest(0), 0);
        due.is("no fonts", new FontRuns().prefer(0), FontRuns.UNKNOWN);
    }

    private static void latest() {
        due.begin("11 latest");
        FontRuns x = Due.withFonts(Due.FOUR);
        int[] preferred = {3, 1, 1, 0, 2, 3, 0};
        for (int n = 0; n < preferred.length; n++) {
            x.prefer(preferred[n]);
            for (int k = 0; k < 5; k++) {
                due.is("latest " + k, x.latest(k), k <= n ? preferred[n - k] : FontRuns.NONE);
            }
        }
        due.is("5", x.latest(5), FontRuns.OUTSIDE);
        due.is("-1", x.latest(-1), FontRuns.OUTSIDE);
    }

    private static void tallyAndCheck() {
        due.begin("12 tally, 13 check");
        FontRuns x = Due.withWriting(Due.FOUR, 4, 0, 15);
        due.is("tally", x.tally(), 3);
        due.is("check", x.check(), (5 * 31 + 1) * 31 + 16);
        x.erase(3);
        Due.told(x, "f;A1a");
        Due.written(x, 2);
        due.is("tally through other fonts", x.tally(), 4);
        due.is("check through other fonts", x.check(), ((5 * 31 + 1) * 31 + 16) * 31 + 3);
        long check = x.check();
        for (int times = 0; times < 20; times++) {
            x.erase(x.many(1));
            Due.written(x, Due.MIXED);
            for (int l : Due.MIXED) {
                check = check * 31 + l + 1;
            }
        }
        due.is("tally", x.tally(), 264);
        due.is("check wraps", x.check(), check);
    }

    private static void day() {
        due.begin("14 day");
        FontRuns x;
        int[] whats = {0, 1, 2, 3, 4, 10, 11, 12, 13};
        int[][] days = {{}, {0, 20}, {3, 21}, {2, 22}, {3, 22, 1, 22, 0, 20}, {11, 20, 15, 20, 6, 20}, {13, 21, 0, 21}};
        int[][] want = {{3, -9, 9, 1, 48, 0, 1, 2, 3}, {4, -9, 10, 1, 51, 0, 1, 2, 3}, {2, -9, 7, 0, 31, 0, 1, 2, 3},
            {3, -9, 9, 1, 48, 1, 2, 0, 3}, {4, -9, 10, 1, 52, 2, 0, 3, 1}, {3, -9, 11, 2, 66, 0, 1, 2, 3},
            {0, -9, 0, 0, 0, 0, 1, 2, 3}};
        for (int d = 0; d < days.length; d++) {
            x = Due.withWriting(Due.FOUR, Due.MIXED);
            for (int w = 0; w < whats.length; w++) {
                due.is("day " + d + " what " + whats[w], Due.dayOf(x, whats[w], days[d]), want[d][w]);
            }
        }
        for (int what : whats) {
            x = Due.withWriting(Due.FOUR, Due.MIXED);
            due.is("14 less", Due.dayOf(x, what, 14, 21), what == 1 ? 0 : -100);
            due.is("13 less, one more, 2 less", Due.dayOf(x, what, 13, 21, 1, 20, 2, 21, 9, 21), what == 1 ? 2 : -102);
        }
        x = Due.withWriting(Due.FOUR, Due.MIXED);
        int[] more = new int[24];
        for (int k = 0; k < 12; k++) {
            more[2 * k + 1] = 20;
        }
        due.is("25th letter", Due.dayOf(x, 1, more), 11);
        due.is("25th letter", Due.dayOf(x, 2, more), -111);
        Due.dayOf(x, 0, 2, 21, 5, 20, 3, 22);
        due.is("tally stays", x.tally(), 13);
        due.is("letters stay", x.many(1), 13);
        due.is("preference stays", x.ofFont(0, 4), 0);
        due.is("latest stays", x.latest(0), FontRuns.NONE);
        due.is("best stays", x.best(3), 48);
        x = Due.withFonts("f;A1a;A1b");
        due.is("no such font", Due.dayOf(x, 1, 1, 22, 2, 22), 1);
        due.is("no such font", Due.dayOf(x, 13, 1, 22, 2, 22), -101);
        due.is("place of no font", Due.dayOf(x, 12, 1, 22), FontRuns.NONE);
        due.is("place of a font", Due.dayOf(x, 10, 1, 22), 1);
        due.is("from i on", x.day(2, 1, 2, 0, 2), 0);
    }

    private static void dayRefusals() {
        due.begin("14 day, refusals");
        FontRuns x = new FontRuns();
        Due.row(x, 2, 1, 0, 20, 16, 20, 0, 23, 25, 21, 4, 22, 24, 21);
        due.is("no fonts", x.day(2, 1, 0, 6, 0), FontRuns.STATE);
        due.is("no fonts, but beyond", x.day(2, 1, 0, 7, 0), -13);
        Due.told(x, Due.FOUR);
        due.is("sheet 4, lane 3", x.day(4, 3, 0, 0, 0), FontRuns.UNKNOWN);
        due.is("sheet -1", x.day(-1, 0, 0, 0, 0), FontRuns.UNKNOWN);
        due.is("lane 3 of nothing", x.day(3, 3, 0, 0, 0), FontRuns.OUTSIDE);
        due.is("n 21 of nothing", x.day(3, 0, 0, 21, 0), FontRuns.OUTSIDE);
        due.is("n -1", x.day(2, 1, 0, -1, 0), FontRuns.OUTSIDE);
        for (int what : new int[] {-1, 5, 9, 14, MAX}) {
            due.is("what " + what, x.day(2, 1, 0, 0, what), FontRuns.OUTSIDE);
        }
        due.is("nothing", x.day(3, 0, 0, 0, 0), -11);
        due.is("other lane", x.day(2, 0, 99, 0, 0), -12);
        due.is("beyond", x.day(2, 1, 1, 6, 0), -13);
        due.is("i beyond", x.day(2, 1, 13, 0, 0), -13);
        due.is("i -1", x.day(2, 1, -1, 1, 0), -13);
        due.is("fault", x.fault(), 3);
        due.is("letter 16", x.day(2, 1, 2, 1, 1), FontRuns.OUTSIDE);
        due.is("fault", x.fault(), 0);
        due.is("act 23", x.day(2, 1, 4, 1, 1), FontRuns.OUTSIDE);
        due.is("25 less", x.day(2, 1, 6, 1, 1), FontRuns.OUTSIDE);
        due.is("font 4", x.day(2, 1, 8, 1, 1), FontRuns.OUTSIDE);
        due.is("24 less", x.day(2, 1, 10, 1, 1), 0);
        due.is("a wrong pair right behind", x.day(2, 1, 0, 1, 2), 1);
        due.is("act 19", Due.dayOf(x, 1, 0, 19), FontRuns.OUTSIDE);
        due.is("-1 with 20", Due.dayOf(x, 1, -1, 20), FontRuns.OUTSIDE);
        due.is("-1 with 21", Due.dayOf(x, 1, -1, 21), FontRuns.OUTSIDE);
        due.is("-1 with 22", Due.dayOf(x, 1, -1, 22), FontRuns.OUTSIDE);
        due.is("a wrong pair behind a first wrong", Due.dayOf(x, 1, 1, 21, 0, 23), FontRuns.OUTSIDE);
    }

    private static void best() {
        due.begin("15 best");
        FontRuns x = Due.withWriting(Due.FOUR, Due.MIXED);
        int[] want = {3, 4, 1, 48};
        for (int what = 0; what < 4; what++) {
            due.is("best " + what, x.best(what), want[what]);
            due.is("best of nothing", Due.withFonts(Due.FOUR).best(what), 0);
            due.is("no fonts", new FontRuns().best(what), FontRuns.STATE);
        }
        due.is("4", x.best(4), FontRuns.OUTSIDE);
        due.is("-1, no fonts", new FontRuns().best(-1), FontRuns.OUTSIDE);
    }

    private static void without() {
        due.begin("16 without");
        FontRuns x = Due.withWriting(Due.FOUR, Due.MIXED);
        int[] want = {3, 2, 2, 2};
        for (int f = 0; f < 4; f++) {
            due.is("without " + f, x.without(f), want[f]);
        }
        due.is("4", x.without(4), FontRuns.UNKNOWN);
        due.is("-1", x.without(-1), FontRuns.UNKNOWN);
        due.is("best stays", x.best(0), 3);
        due.is("the only one", Due.withWriting("f;A1a", 0).without(0), FontRuns.NONE);
        due.is("of nothing written", Due.withFonts("f;A1a;A1b").without(0), 0);
        x = Due.withWriting("f;A1ab;A1a;A1b", 0, 1, 0, 1);
        due.is("more changes", x.without(0), 3);
        due.is("as many", x.without(1), 0);
    }

    private static void enough() {
        due.begin("17 enough");
        FontRuns x = Due.withWriting(Due.FOUR, Due.MIXED);
        due.is("how many", x.enough(0), 4);
        due.is("set", x.enough(1), 15);
        due.is("2", x.enough(2), FontRuns.OUTSIDE);
        due.is("-1, no fonts", new FontRuns().enough(-1), FontRuns.OUTSIDE);
        due.is("no fonts", new FontRuns().enough(1), FontRuns.STATE);
        due.is("nothing written", Due.withFonts(Due.FOUR).enough(1), 0);
        due.is("boxes alone", Due.withWriting(Due.FOUR, 10, 11).enough(0), 0);
        x = Due.withWriting("f;A1a;A1b;A1ab;A1ab", 0, 1);
        due.is("one rather than two", x.enough(1), 4);
        x = Due.withWriting("f;A1ab;A1bc;A1cd;A1ad", 0, 1, 2, 3);
        due.is("the least of two sets", x.enough(1), 5);
        due.is("of two", x.enough(0), 2);
    }

    private static void reading() {
        due.begin("18 reading");
        FontRuns x = Due.withWriting(Due.FOUR, Due.MIXED);
        due.is("-1", x.reading(-1), FontRuns.OUTSIDE);
        due.is("501", x.reading(501), FontRuns.OUTSIDE);
        for (int n = 0; n < 8; n++) {
            due.is("reading " + n, x.reading(n % 2 * 500), n);
            due.is("many behind reading " + n, x.many(3), n + 1);
        }
        due.is("a ninth", x.reading(48), FontRuns.FULL);
        due.is("a ninth, 501", x.reading(501), FontRuns.OUTSIDE);
        due.is("many", x.many(3), 8);
        x.fonts(0, 0, 0, 32);
        due.is("the first one of new fonts", x.reading(0), 0);
        due.is("no fonts, 501", new FontRuns().reading(501), FontRuns.STATE);
    }

    private static void back() {
        due.begin("19 back");
        FontRuns x = Due.withWriting(Due.FOUR, Due.MIXED);
        x.reading(48);
        x.reading(49);
        x.reading(50);
        due.is("-1", x.back(-1), FontRuns.OUTSIDE);
        due.is("4", x.back(4), FontRuns.OUTSIDE);
        due.is("0", x.back(0), 3);
        due.is("2", x.back(2), 1);
        due.is("the first is left", x.kinds(3), 1);
        due.is("the next one's number", x.reading(48), 1);
        due.is("2", x.back(2), 0);
        due.is("the first one's number again", x.reading(50), 0);
        due.is("1", x.back(1), 0);
        due.is("1", x.back(1), FontRuns.OUTSIDE);
        due.is("all kinds again", x.kinds(3), 7);
    }

    private static void kinds() {
        due.begin("20 kinds");
        FontRuns x = Due.withWriting("f;A1a;B3b;C2c", 0, 0, 1, 2);
        for (int f = 0; f < 3; f++) {
            due.is("without readings", x.kinds(f), 7);
        }
        x.reading(10);
        due.is("as it is, plain", x.kinds(0), 1);
        due.is("as it is, broad", x.kinds(1), 2);
        due.is("as it is, double", x.kinds(2), 4);
        x.back(1);
        x.reading(12);
        due.is("broad or double, of width 1", x.kinds(0), 6);
        due.is("double", x.kinds(1), 4);
        due.is("none", x.kinds(2), 0);
        x.reading(10);
        due.is("readings that gainsay one another", x.kinds(0), 0);
        due.is("-1", x.kinds(-1), FontRuns.UNKNOWN);
        due.is("3", x.kinds(3), FontRuns.UNKNOWN);
    }

    private static void widths() {
        due.begin("21 widths");
        FontRuns x = Due.withWriting("f;A1a;B3b;C2c", 0, 0, 1, 2);
        for (int f = 0; f < 3; f++) {
            due.is("without readings", x.widths(f), 1022);
        }
        x.reading(10);
        due.is("as it is, plain", x.widths(0), 1 << 1);
        due.is("as it is, broad", x.widths(1), 1 << 3);
        due.is("as it is, double", x.widths(2), 1 << 2);
        x.back(1);
        x.reading(11);
        due.is("no half widths", x.widths(0), 0);
        due.is("one more", x.widths(1), 1 << 4);
        due.is("no half widths", x.widths(2), 0);
        x.back(1);
        x.reading(24);
        due.is("not above 9", x.widths(1), 0);
        due.is("9", x.widths(2), 1 << 9);
        x.erase(4);
        x.back(1);
        x.reading(0);
        due.is("no cluster tells nothing", x.widths(0), 1022);
        due.is("-1", x.widths(-1), FontRuns.UNKNOWN);
        due.is("3", x.widths(3), FontRuns.UNKNOWN);
    }

    private static void readingsStay() {
        due.begin("20 kinds, 21 widths of a writing that was");
        FontRuns x = Due.withWriting("f;A4ab;A2bc", 1, 1, 1);
        x.reading(12);
        x.erase(2);
        due.is("erased", x.widths(0), 1 << 4);
        x.prefer(1);
        due.is("another one preferred", x.widths(0), 1 << 4);
        due.is("another one preferred", x.widths(1), 1022);
        x.width(0, 7);
        due.is("another width of its own", x.widths(0), 1 << 4);
        due.is("another width of the other", x.widths(1), 0);
        x.reading(5);
        due.is("both", x.widths(0), 0);
        x.width(0, 4);
        due.is("both", x.widths(1), 1 << 5);
    }

    private static void share(FontRuns x, int v, long upper, long lower) {
        due.is("upper of " + v, x.odds(v, 0), upper);
        due.is("lower of " + v, x.odds(v, 1), lower);
    }

    private static void odds() {
        due.begin("22 odds");
        FontRuns x = Due.withWriting(Due.FOUR, Due.MIXED);
        share(x, 0, 0, 1);
        share(x, 2, 1, 4);
        share(x, 3, 3, 8);
        share(x, 4, 3, 8);
        share(x, 24, 0, 1);
        share(x, -1, LOST, LOST);
        share(x, 25, LOST, LOST);
        due.is("which 2", x.odds(0, 2), LOST);
        due.is("which -1", x.odds(0, -1), LOST);
        due.is("letters stay", x.many(1), 13);
        due.is("tally stays", x.tally(), 13);
        share(Due.withFonts(Due.FOUR), 0, 1, 1);
        share(new FontRuns(), 0, LOST, LOST);
        x = Due.withFonts("f;A1a;A1b");
        Due.written(x, new int[23]);
        share(x, 0, 15, 16);
        share(x, 1, 1, 16);
        Due.written(x, 0);
        share(x, 0, LOST, LOST);
    }

    private static void sheet() {
        due.begin("23 sheet");
        FontRuns x = new FontRuns();
        due.is("60", x.sheet(3, 2, 60), 1);
        due.is("put", x.put(3, 59, 7), 1);
        due.is("anew", x.sheet(3, 2, 60), 1);
        due.is("is 0 again", x.cell(3, 59, 2), 0);
        x.put(3, 0, 7);
        x.sheet(3, 2, 60);
        due.is("the first is 0 again", x.cell(3, 0, 2), 0);
        due.is("none", x.sheet(3, 1, 0), 1);
        due.is("no cell", x.cell(3, 0, 1), LOST);
        due.is("4, lane 3", x.sheet(4, 3, 61), FontRuns.UNKNOWN);
        due.is("-1", x.sheet(-1, 0, 1), FontRuns.UNKNOWN);
        due.is("lane 3", x.sheet(0, 3, -1), FontRuns.OUTSIDE);
        due.is("lane -1", x.sheet(0, -1, 1), FontRuns.OUTSIDE);
        due.is("61", x.sheet(0, 0, 61), FontRuns.OUTSIDE);
        due.is("nothing made", x.lose(0), 0);
        x.sheet(0, 0, 2);
        due.is("-1 cells", x.sheet(0, 1, -1), -14);
        due.is("fault", x.fault(), 4);
        due.is("the row stays", x.cell(0, 1, 0), 0);
        due.is("least cells", x.sheet(0, 1, MIN), -14);
    }

    private static void lose() {
        due.begin("24 lose");
        FontRuns x = new FontRuns();
        due.is("nothing", x.lose(0), 0);
        x.sheet(0, 0, 0);
        due.is("a row of none", x.lose(0), 1);
        due.is("again", x.lose(0), 0);
        due.is("is nothing", x.put(0, 0, 0), -11);
        due.is("4", x.lose(4), FontRuns.UNKNOWN);
        due.is("-1", x.lose(-1), FontRuns.UNKNOWN);
        due.is("no fault of its own", x.fault(), 1);
    }

    private static void put() {
        due.begin("25 put");
        FontRuns x = new FontRuns();
        for (int lane = 0; lane < 3; lane++) {
            x.sheet(lane, lane, 3);
            for (int v : new int[] {0, 127, 128, -128, -129, 255, 256, 32767, 32768, -32769, 65536, MIN, MAX}) {
                due.is("put", x.put(lane, 1, v), 1);
                int cut = lane == 0 ? (byte) v : lane == 1 ? (short) v : v;
                due.is("cut " + v + " to " + lane, x.cell(lane, 1, lane), cut);
            }
            due.is("ahead", x.cell(lane, 0, lane), 0);
            due.is("behind", x.cell(lane, 2, lane), 0);
            due.is("3", x.put(lane, 3, 1), -13);
            due.is("-1", x.put(lane, -1, 1), -13);
            due.is("fault", x.fault(), 3);
        }
        due.is("nothing", x.put(3, -1, 1), -11);
        due.is("fault", x.fault(), 1);
        due.is("sheet 4", x.put(4, 0, 0), FontRuns.UNKNOWN);
        due.is("sheet -1", x.put(-1, 0, 0), FontRuns.UNKNOWN);
        due.is("fault", x.fault(), 0);
    }

    private static void cellFault(FontRuns x, int k, int i, int lane, int want) {
        due.is("cell " + k + " " + i + " " + lane, x.cell(k, i, lane), LOST);
        due.is("its fault", x.fault(), want);
    }

    private static void cell() {
        due.begin("26 cell");
        FontRuns x = new FontRuns();
        Due.row(x, 1, 1, 5, -6);
        due.is("cell", x.cell(1, 1, 1), -6);
        cellFault(x, 0, 9, 0, 1);
        cellFault(x, 1, 9, 2, 2);
        cellFault(x, 1, 2, 1, 3);
        cellFault(x, 1, -1, 1, 3);
        cellFault(x, 1, 9, 3, 0);
        x.cell(1, 9, 1);
        cellFault(x, 4, 0, 1, 0);
        x.cell(1, 9, 1);
        cellFault(x, -1, 0, 1, 0);
        x.cell(1, 9, 1);
        x.cell(1, 0, 1);
        due.is("no fault", x.fault(), 0);
    }

    private static void cells(FontRuns x, int k, int lane, int... want) {
        for (int i = 0; i < want.length; i++) {
            due.is("cell " + i + " of " + k, x.cell(k, i, lane), want[i]);
        }
    }

    private static void copy() {
        due.begin("27 copy");
        FontRuns x = new FontRuns();
        Due.row(x, 0, 1, 1, 2, 3, 4, 5);
        Due.row(x, 1, 1, 7, 8, 9);
        Due.row(x, 2, 2, 7, 8, 9);
        due.is("two", x.copy(0, 3, 1, 0, 2), 2);
        cells(x, 1, 1, 4, 5, 9);
        due.is("upwards", x.copy(0, 0, 0, 1, 4), 4);
        cells(x, 0, 1, 1, 1, 2, 3, 4);
        due.is("downwards", x.copy(0, 2, 0, 0, 3), 3);
        cells(x, 0, 1, 2, 3, 4, 3, 4);
        due.is("none", x.copy(0, 5, 1, 3, 0), 0);
        due.is("unknown first", x.copy(4, 0, 0, 0, 0), FontRuns.UNKNOWN);
        due.is("unknown other", x.copy(3, 0, -1, 0, 0), FontRuns.UNKNOWN);
        due.is("fault", x.fault(), 0);
        due.is("nothing", x.copy(3, -1, 2, 0, 0), -11);
        due.is("other nothing", x.copy(2, -1, 3, 0, 0), -11);
        due.is("other lane", x.copy(0, -1, 2, 0, 0), -12);
        due.is("fault", x.fault(), 2);
        due.is("i -1", x.copy(0, -1, 1, 0, 0), -13);
        due.is("j -1", x.copy(0, 0, 1, -1, 0), -13);
        due.is("n -1", x.copy(0, 0, 1, 0, -1), -13);
        due.is("i 6", x.copy(0, 6, 1, 0, 0), -13);
        due.is("j 4", x.copy(0, 0, 1, 4, 0), -13);
        due.is("n beyond the first", x.copy(1, 1, 0, 0, 3), -13);
        due.is("n beyond the other", x.copy(0, 0, 1, 0, 4), -13);
        due.is("n most", x.copy(0, 5, 1, 3, MAX), -13);
        due.is("fault", x.fault(), 3);
        cells(x, 1, 1, 4, 5, 9);
    }

    private static int traceOf(int... bodies) {
        int trace = 0;
        for (int body : bodies) {
            trace = trace * 31 + body;
        }
        return trace;
    }

    private static void tell() {
        due.begin("28 tell, 31 trace");
        FontRuns x = Due.withFonts(Due.FOUR);
        due.is("plain", x.tell(0), 3);
        due.is("trace", x.trace(), traceOf(1));
        due.is("broad", x.tell(1), 102);
        due.is("trace", x.trace(), traceOf(1, 2, 1));
        due.is("double", x.tell(2), 108);
        due.is("trace", x.trace(), traceOf(1, 2, 1, 3, 2, 1, 1));
        due.is("4", x.tell(4), FontRuns.UNKNOWN);
        due.is("-1", x.tell(-1), FontRuns.UNKNOWN);
        x.width(2, 9);
        due.is("another width", x.tell(2), 118);
        due.is("trace wraps", x.trace(), traceOf(1, 2, 1, 3, 2, 1, 1, 3, 2, 1, 1));
    }

    private static void sample() {
        due.begin("29 sample, 31 trace");
        FontRuns x = Due.withFonts(Due.FOUR);
        due.is("plain", x.sample(3), 4);
        due.is("trace", x.trace(), traceOf(4));
        due.is("broad", x.sample(1), 5);
        due.is("double", x.sample(2), 50);
        due.is("trace", x.trace(), traceOf(4, 4, 5));
        due.is("4", x.sample(4), FontRuns.UNKNOWN);
        due.is("-1", x.sample(-1), FontRuns.UNKNOWN);
        due.is("trace", x.trace(), traceOf(4, 4, 5));
    }

    private static void as() {
        due.begin("30 as");
        FontRuns x = Due.withFonts(Due.FOUR);
        for (int f = 0; f < 3; f++) {
            for (int kind = 0; kind < 3; kind++) {
                due.is("as " + f + " " + kind, x.as(f, kind), f >= kind ? 1 : -12);
                due.is("fault", x.fault(), f >= kind ? 0 : 2);
            }
        }
        x.as(0, 2);
        due.is("kind 3", x.as(0, 3), FontRuns.OUTSIDE);
        due.is("fault", x.fault(), 0);
        due.is("kind -1", x.as(0, -1), FontRuns.OUTSIDE);
        due.is("font 4, kind 3", x.as(4, 3), FontRuns.UNKNOWN);
        due.is("font -1", x.as(-1, 0), FontRuns.UNKNOWN);
    }

    private static void fault() {
        due.begin("32 fault");
        FontRuns x = Due.withWriting(Due.FOUR, Due.MIXED);
        x.put(3, 0, 0);
        x.lose(0);
        x.ofFont(9, 9);
        x.erase(99);
        x.prefer(0);
        x.tell(0);
        x.sample(0);
        x.best(9);
        x.odds(0, 0);
        x.reading(5);
        x.kinds(0);
        x.many(0);
        due.is("calls that name none leave it", x.fault(), 1);
        due.is("and it leaves itself", x.fault(), 1);
        x.put(4, 0, 0);
        due.is("a refusal", x.fault(), 0);
        x.put(3, 0, 0);
        x.sheet(3, 0, 1);
        due.is("a row", x.fault(), 0);
        x.put(3, 1, 0);
        x.put(3, 0, 0);
        due.is("a cell", x.fault(), 0);
        x.put(3, 1, 0);
        x.fonts(3, 0, 0, 1);
        due.is("a wrong text", x.fault(), 0);
        x.put(3, 1, 0);
        x.write(3, 0, 0, 1);
        due.is("a letter", x.fault(), 0);
        x.put(3, 1, 0);
        x.day(3, 0, 0, 0, 0);
        due.is("a day", x.fault(), 0);
        x.put(3, 1, 0);
        x.copy(3, 0, 3, 0, 1);
        due.is("a copy", x.fault(), 0);
    }

    private static void many() {
        due.begin("33 many");
        FontRuns x = Due.withWriting(Due.FOUR, Due.MIXED);
        x.reading(7);
        x.reading(7);
        due.is("fonts", x.many(0), 4);
        due.is("letters", x.many(1), 13);
        due.is("clusters", x.many(2), 9);
        due.is("readings", x.many(3), 2);
        due.is("4", x.many(4), FontRuns.OUTSIDE);
        due.is("-1", x.many(-1), FontRuns.OUTSIDE);
    }
}
