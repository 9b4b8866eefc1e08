/**
 * Fonts for a mixed writing, the fonts chosen so that they change the fewest times.
 *
 * <p>What each call promises stands in the document; README.md says how to use the class. All rows
 * are made by the constructor and used again, so no call makes an object.
 */
public final class FontRuns {
    public static final int UNKNOWN = -1, OUTSIDE = -2, STATE = -3, FULL = -4, NONE = -9;
    public static final long LOST = Long.MIN_VALUE;

    private static final int NULL = 1, CAST = 2, INDEX = 3, SIZE = 4;
    private static final int BEFORE_FAULTS = -10, BEFORE_PLACES = -100;

    private static final int MOST_FONTS = 4, MOST_LETTERS = 24, LETTER_KINDS = 16, FIRST_MARK = 12;
    private static final int MOST_OF_ONE_FONT = 8, LEAST_WIDTH = 1, MOST_WIDTH = 9;
    private static final int PLAIN = 0, BROAD = 1, DOUBLE = 2;
    private static final int MOST_KEPT = 5, MOST_READINGS = 8, MOST_READ = 500;
    private static final int MOST_SHEETS = 4, MOST_CELLS = 60;
    private static final int BYTES = 0, SHORTS = 1, INTS = 2;
    private static final int MOST_PAIRS = 20, COMES = 20, GOES = 21, LEADS = 22, PLACE_OF_FONT = 10;

    private final Sheet[] sheets;
    private final TextReader reader;
    private final FontRow fontRow;
    private final Writing writing;
    private final Preference preference;
    private final Recent recent;
    private final Setting setting;
    private final Readings readings;
    // What would be is tried out in these three, so that nothing that is gets changed.
    private final Writing supposedWriting;
    private final Preference supposedPreference;
    private final Setting supposedSetting;
    private int everWritten;
    private long writtenCheck;
    private int trail;
    private int latestFault;

    public FontRuns() {
        sheets = new Sheet[MOST_SHEETS];
        for (int k = 0; k < MOST_SHEETS; k++) {
            sheets[k] = new Sheet();
        }
        reader = new TextReader();
        fontRow = new FontRow();
        writing = new Writing();
        preference = new Preference();
        recent = new Recent();
        setting = new Setting();
        readings = new Readings();
        supposedWriting = new Writing();
        supposedPreference = new Preference();
        supposedSetting = new Setting();
    }

    // ---- 1 fonts

    public int fonts(int sheet, int lane, int i, int n) {
        latestFault = 0;
        if (!isSheet(sheet)) {
            return UNKNOWN;
        }
        if (!isLane(lane)) {
            return OUTSIDE;
        }
        Sheet row = sheets[sheet];
        int wrong = faultOfLane(row, lane);
        if (wrong == 0 && n < 0) {
            wrong = SIZE;
        }
        if (wrong == 0 && !row.hasCells(i, n)) {
            wrong = INDEX;
        }
        if (wrong != 0) {
            return failWith(wrong);
        }
        int firstFault = reader.firstFault(row, i, n);
        if (firstFault != NONE) {
            return BEFORE_PLACES - firstFault;
        }
        beginWithFontsTold();
        return fontRow.count;
    }

    public int ofFont(int f, int what) {
        if (!fontRow.isFont(f)) {
            return UNKNOWN;
        }
        switch (what) {
            case 0: return fontRow.kind[f];
            case 1: return fontRow.breadth[f];
            case 2: return fontRow.step(f);
            case 3: return fontRow.has[f];
            case 4: return preference.placeOf(f);
            default: return OUTSIDE;
        }
    }

    public int width(int f, int v) {
        if (!fontRow.isFont(f)) {
            return UNKNOWN;
        }
        if (!isWithin(v, LEAST_WIDTH, MOST_WIDTH)) {
            return OUTSIDE;
        }
        int was = fontRow.breadth[f];
        fontRow.breadth[f] = v;
        return was;
    }

    private void beginWithFontsTold() {
        fontRow.takeFrom(reader.told);
        writing.count = 0;
        preference.begin(fontRow.count);
        recent.count = 0;
        readings.count = 0;
        settle();
    }

    // ---- 2 writing

    public int write(int sheet, int lane, int i, int n) {
        latestFault = 0;
        if (!isSheet(sheet)) {
            return UNKNOWN;
        }
        if (!isLane(lane) || !isWithin(n, 0, MOST_LETTERS)) {
            return OUTSIDE;
        }
        Sheet row = sheets[sheet];
        int wrong = faultOfCells(row, lane, i, n);
        if (wrong != 0) {
            return failWith(wrong);
        }
        if (fontRow.count == 0) {
            return STATE;
        }
        if (!areLetters(row, i, n)) {
            return OUTSIDE;
        }
        if (writing.count + n > MOST_LETTERS) {
            return FULL;
        }
        for (int k = 0; k < n; k++) {
            writeOne(row.at(i + k));
        }
        settle();
        return writing.count;
    }

    public int erase(int n) {
        if (!isWithin(n, 0, writing.count)) {
            return OUTSIDE;
        }
        writing.drop(n);
        settle();
        return writing.count;
    }

    public int letter(int k) {
        return isWithin(k, 0, writing.count - 1) ? writing.row[k] : UNKNOWN;
    }

    public int ofCluster(int k, int what) {
        if (!setting.isCluster(k)) {
            return UNKNOWN;
        }
        switch (what) {
            case 0: return setting.first[k];
            case 1: return setting.length[k];
            case 2: return setting.fitting[k];
            case 3: return setting.chosen[k];
            case 4: return setting.runOf[k];
            default: return OUTSIDE;
        }
    }

    public int ofRun(int r, int what) {
        if (!isWithin(r, 0, setting.runs - 1)) {
            return UNKNOWN;
        }
        int begin = setting.firstOfRun(r);
        int f = setting.chosen[begin];
        switch (what) {
            case 0: return f;
            case 1: return begin;
            case 2: return setting.clustersOfRun(r);
            case 3: return setting.clustersOfRun(r) * fontRow.step(f);
            default: return OUTSIDE;
        }
    }

    public int prefer(int f) {
        if (!fontRow.isFont(f)) {
            return UNKNOWN;
        }
        int was = preference.placeOf(f);
        preference.lead(f);
        recent.keep(f);
        settle();
        return was;
    }

    public int latest(int k) {
        if (!isWithin(k, 0, MOST_KEPT - 1)) {
            return OUTSIDE;
        }
        return k < recent.count ? recent.row[k] : NONE;
    }

    public int tally() {
        return everWritten;
    }

    public long check() {
        return writtenCheck;
    }

    public int day(int sheet, int lane, int i, int n, int what) {
        latestFault = 0;
        if (!isSheet(sheet)) {
            return UNKNOWN;
        }
        if (!isLane(lane) || !isWithin(n, 0, MOST_PAIRS) || !isOfDay(what)) {
            return OUTSIDE;
        }
        Sheet row = sheets[sheet];
        int wrong = faultOfCells(row, lane, i, 2 * n);
        if (wrong != 0) {
            return failWith(wrong);
        }
        if (fontRow.count == 0) {
            return STATE;
        }
        if (!areActs(row, i, n)) {
            return OUTSIDE;
        }
        int firstWrong = supposeActs(row, i, n);
        if (what == 1) {
            return firstWrong;
        }
        return firstWrong == NONE ? ofSupposedDay(what) : BEFORE_PLACES - firstWrong;
    }

    private void writeOne(int letter) {
        writing.add(letter);
        everWritten++;
        writtenCheck = 31 * writtenCheck + letter + 1;
    }

    private void settle() {
        setting.make(writing, fontRow, preference, fontRow.all());
    }

    private static boolean areLetters(Sheet row, int i, int n) {
        for (int k = 0; k < n; k++) {
            if (!isWithin(row.at(i + k), 0, LETTER_KINDS - 1)) {
                return false;
            }
        }
        return true;
    }

    private static boolean isOfDay(int what) {
        return isWithin(what, 0, 4) || isWithin(what, PLACE_OF_FONT, PLACE_OF_FONT + MOST_FONTS - 1);
    }

    private static boolean areActs(Sheet row, int i, int n) {
        for (int k = 0; k < n; k++) {
            if (!isAct(row.at(i + 2 * k), row.at(i + 2 * k + 1))) {
                return false;
            }
        }
        return true;
    }

    private static boolean isAct(int number, int act) {
        switch (act) {
            case COMES: return isWithin(number, 0, LETTER_KINDS - 1);
            case GOES: return isWithin(number, 0, MOST_LETTERS);
            case LEADS: return isWithin(number, 0, MOST_FONTS - 1);
            default: return false;
        }
    }

    /** Acts until one can't be, and answers which one that is. */
    private int supposeActs(Sheet row, int i, int n) {
        supposedWriting.takeFrom(writing);
        supposedPreference.takeFrom(preference);
        for (int k = 0; k < n; k++) {
            if (!supposeAct(row.at(i + 2 * k), row.at(i + 2 * k + 1))) {
                return k;
            }
        }
        return NONE;
    }

    private boolean supposeAct(int number, int act) {
        switch (act) {
            case COMES: return supposedWriting.add(number);
            case GOES: return supposedWriting.drop(number);
            default: return supposedPreference.lead(number);
        }
    }

    private int ofSupposedDay(int what) {
        if (what >= PLACE_OF_FONT) {
            return supposedPreference.placeOf(what - PLACE_OF_FONT);
        }
        supposedSetting.make(supposedWriting, fontRow, supposedPreference, fontRow.all());
        switch (what) {
            case 0: return supposedSetting.changes();
            case 2: return supposedSetting.count;
            case 3: return supposedSetting.boxes;
            default: return supposedSetting.advance(fontRow);
        }
    }

    // ---- 3 what would be

    public int best(int what) {
        if (!isWithin(what, 0, 3)) {
            return OUTSIDE;
        }
        if (fontRow.count == 0) {
            return STATE;
        }
        switch (what) {
            case 0: return setting.changes();
            case 1: return setting.runs;
            case 2: return setting.boxes;
            default: return setting.advance(fontRow);
        }
    }

    public int without(int f) {
        if (!fontRow.isFont(f)) {
            return UNKNOWN;
        }
        if (fontRow.count == 1) {
            return NONE;
        }
        supposedSetting.make(writing, fontRow, preference, fontRow.all() & ~(1 << f));
        return supposedSetting.changes();
    }

    public int enough(int what) {
        if (!isWithin(what, 0, 1)) {
            return OUTSIDE;
        }
        if (fontRow.count == 0) {
            return STATE;
        }
        int set = leastEnough();
        return what == 0 ? Integer.bitCount(set) : set;
    }

    private int leastEnough() {
        int least = fontRow.all();
        // Downwards, so that of sets with as many FONTS the least number comes last and stays.
        for (int set = fontRow.all(); set >= 0; set--) {
            if (setting.isServedBy(set) && Integer.bitCount(set) <= Integer.bitCount(least)) {
                least = set;
            }
        }
        return least;
    }

    // ---- 4 how far it goes

    public int reading(int v) {
        if (fontRow.count == 0) {
            return STATE;
        }
        if (!isWithin(v, 0, MOST_READ)) {
            return OUTSIDE;
        }
        int number = readings.count;
        return readings.add(setting, v) ? number : FULL;
    }

    public int back(int n) {
        if (!isWithin(n, 0, readings.count)) {
            return OUTSIDE;
        }
        readings.count -= n;
        return readings.count;
    }

    public int kinds(int f) {
        if (!fontRow.isFont(f)) {
            return UNKNOWN;
        }
        int set = 0;
        for (int kind = PLAIN; kind <= DOUBLE; kind++) {
            if (readings.areSo(fontRow, f, stepOf(kind, fontRow.breadth[f]))) {
                set |= 1 << kind;
            }
        }
        return set;
    }

    public int widths(int f) {
        if (!fontRow.isFont(f)) {
            return UNKNOWN;
        }
        int set = 0;
        for (int w = LEAST_WIDTH; w <= MOST_WIDTH; w++) {
            if (readings.areSo(fontRow, f, stepOf(fontRow.kind[f], w))) {
                set |= 1 << w;
            }
        }
        return set;
    }

    public long odds(int v, int which) {
        if (!isWithin(v, 0, MOST_LETTERS) || !isWithin(which, 0, 1)) {
            return LOST;
        }
        if (fontRow.count == 0 || writing.count >= MOST_LETTERS) {
            return LOST;
        }
        int upper = lettersWithChanges(v);
        int lower = LETTER_KINDS;
        // The lower number is a power of two, so halving is all that least terms need.
        while (lower > 1 && upper % 2 == 0) {
            upper /= 2;
            lower /= 2;
        }
        return which == 0 ? upper : lower;
    }

    private int lettersWithChanges(int v) {
        int found = 0;
        for (int l = 0; l < LETTER_KINDS; l++) {
            supposedWriting.takeFrom(writing);
            supposedWriting.add(l);
            supposedSetting.make(supposedWriting, fontRow, preference, fontRow.all());
            if (supposedSetting.changes() == v) {
                found++;
            }
        }
        return found;
    }

    // ---- 5 sheets, parts

    public int sheet(int k, int lane, int n) {
        latestFault = 0;
        if (!isSheet(k)) {
            return UNKNOWN;
        }
        if (!isLane(lane) || n > MOST_CELLS) {
            return OUTSIDE;
        }
        if (n < 0) {
            return failWith(SIZE);
        }
        sheets[k].begin(lane, n);
        return 1;
    }

    public int lose(int k) {
        if (!isSheet(k)) {
            return UNKNOWN;
        }
        boolean had = sheets[k].isThere;
        sheets[k].isThere = false;
        return had ? 1 : 0;
    }

    public int put(int k, int i, int v) {
        latestFault = 0;
        if (!isSheet(k)) {
            return UNKNOWN;
        }
        Sheet row = sheets[k];
        if (!row.isThere) {
            return failWith(NULL);
        }
        if (!row.hasCell(i)) {
            return failWith(INDEX);
        }
        row.cells[i] = row.cut(v);
        return 1;
    }

    public long cell(int k, int i, int lane) {
        latestFault = 0;
        if (!isSheet(k) || !isLane(lane)) {
            return LOST;
        }
        Sheet row = sheets[k];
        int wrong = faultOfLane(row, lane);
        if (wrong == 0 && !row.hasCell(i)) {
            wrong = INDEX;
        }
        if (wrong != 0) {
            latestFault = wrong;
            return LOST;
        }
        return row.at(i);
    }

    public int copy(int k, int i, int other, int j, int n) {
        latestFault = 0;
        if (!isSheet(k) || !isSheet(other)) {
            return UNKNOWN;
        }
        Sheet from = sheets[k];
        Sheet to = sheets[other];
        if (!from.isThere || !to.isThere) {
            return failWith(NULL);
        }
        if (from.lane != to.lane) {
            return failWith(CAST);
        }
        if (!from.hasCells(i, n) || !to.hasCells(j, n)) {
            return failWith(INDEX);
        }
        System.arraycopy(from.cells, i, to.cells, j, n);
        return n;
    }

    public int tell(int f) {
        if (!fontRow.isFont(f)) {
            return UNKNOWN;
        }
        int w = fontRow.breadth[f];
        switch (fontRow.kind[f]) {
            case DOUBLE: return doubleTold(w);
            case BROAD: return broadTold(w);
            default: return plainTold(w);
        }
    }

    public int sample(int f) {
        if (!fontRow.isFont(f)) {
            return UNKNOWN;
        }
        if (fontRow.kind[f] == DOUBLE) {
            leave(5);
            return 50;
        }
        leave(4);
        return Integer.bitCount(fontRow.has[f]);
    }

    public int as(int f, int kind) {
        latestFault = 0;
        if (!fontRow.isFont(f)) {
            return UNKNOWN;
        }
        if (!isWithin(kind, PLAIN, DOUBLE)) {
            return OUTSIDE;
        }
        // Each kind is also all kinds of lower number.
        return fontRow.kind[f] >= kind ? 1 : failWith(CAST);
    }

    public int trace() {
        return trail;
    }

    public int fault() {
        return latestFault;
    }

    public int many(int what) {
        switch (what) {
            case 0: return fontRow.count;
            case 1: return writing.count;
            case 2: return setting.count;
            case 3: return readings.count;
            default: return OUTSIDE;
        }
    }

    private void leave(int body) {
        trail = 31 * trail + body;
    }

    private int plainTold(int w) {
        leave(1);
        return w;
    }

    private int broadTold(int w) {
        leave(2);
        return plainTold(w) + 100;
    }

    private int doubleTold(int w) {
        leave(3);
        int broad = broadTold(w);
        return broad + plainTold(w);
    }

    // ---- what several parts use

    private int failWith(int machineFault) {
        latestFault = machineFault;
        return BEFORE_FAULTS - machineFault;
    }

    /** The first FAULT of taking what a SHEET has as a row of a LANE, or 0: nothing is of any LANE. */
    private static int faultOfLane(Sheet row, int lane) {
        if (!row.isThere) {
            return NULL;
        }
        return row.lane == lane ? 0 : CAST;
    }

    private static int faultOfCells(Sheet row, int lane, int i, int n) {
        int wrong = faultOfLane(row, lane);
        if (wrong != 0) {
            return wrong;
        }
        return row.hasCells(i, n) ? 0 : INDEX;
    }

    private static boolean isSheet(int k) {
        return isWithin(k, 0, MOST_SHEETS - 1);
    }

    private static boolean isLane(int lane) {
        return isWithin(lane, BYTES, INTS);
    }

    private static boolean isWithin(int v, int least, int most) {
        return v >= least && v <= most;
    }

    private static int stepOf(int kind, int breadth) {
        switch (kind) {
            case DOUBLE: return 2 * breadth;
            case BROAD: return breadth + 1;
            default: return breadth;
        }
    }

    /** A SHEET: nothing, or the first size cells. */
    private static final class Sheet {
        final int[] cells = new int[MOST_CELLS];
        boolean isThere;
        int lane;
        int size;

        void begin(int newLane, int newSize) {
            for (int i = 0; i < MOST_CELLS; i++) {
                cells[i] = 0;
            }
            isThere = true;
            lane = newLane;
            size = newSize;
        }

        boolean hasCell(int i) {
            return isThere && isWithin(i, 0, size - 1);
        }

        boolean hasCells(int i, int n) {
            // Taken away rather than added, since a sum of any two numbers may wrap.
            return isThere && isWithin(i, 0, size) && isWithin(n, 0, size - i);
        }

        int at(int i) {
            return hasCell(i) ? cells[i] : 0;
        }

        int cut(int v) {
            switch (lane) {
                case BYTES: return (byte) v;
                case SHORTS: return (short) v;
                default: return v;
            }
        }
    }

    /** The FONTS, by number. */
    private static final class FontRow {
        final int[] kind = new int[MOST_FONTS];
        final int[] breadth = new int[MOST_FONTS];
        final int[] has = new int[MOST_FONTS];
        int count;

        boolean isFont(int f) {
            return isWithin(f, 0, count - 1);
        }

        int all() {
            return (1 << count) - 1;
        }

        int step(int f) {
            return isFont(f) ? stepOf(kind[f], breadth[f]) : 0;
        }

        int fitting(int letters) {
            int set = 0;
            for (int f = 0; f < count; f++) {
                if ((has[f] & letters) == letters) {
                    set |= 1 << f;
                }
            }
            return set;
        }

        void takeFrom(FontRow other) {
            count = other.count;
            for (int f = 0; f < MOST_FONTS; f++) {
                kind[f] = other.kind[f];
                breadth[f] = other.breadth[f];
                has[f] = other.has[f];
            }
        }
    }

    /** Reads a TEXT code by code into FONTS of its own, so that a wrong TEXT changes nothing. */
    private static final class TextReader {
        private static final int HEAD = 0, FIRST_SIGN = 1, KIND = 2, BREADTH = 3, FIRST_LETTER = 4;
        private static final int LETTER_OR_SIGN = 5;

        final FontRow told = new FontRow();
        private int due;

        int firstFault(Sheet row, int i, int n) {
            told.count = 0;
            due = HEAD;
            for (int k = 0; k < n; k++) {
                if (!goesOnWith(row.at(i + k))) {
                    return k;
                }
            }
            return due == LETTER_OR_SIGN ? NONE : n;
        }

        private boolean goesOnWith(int code) {
            switch (due) {
                case HEAD: return takesHead(code);
                case FIRST_SIGN: return takesSign(code);
                case KIND: return takesKind(code, told.count - 1);
                case BREADTH: return takesBreadth(code, told.count - 1);
                case FIRST_LETTER: return takesLetter(code, told.count - 1);
                default: return code == ';' ? takesSign(code) : takesLetter(code, told.count - 1);
            }
        }

        private boolean takesHead(int code) {
            due = FIRST_SIGN;
            return code == 'f';
        }

        private boolean takesSign(int code) {
            if (code != ';' || told.count >= MOST_FONTS) {
                return false;
            }
            told.has[told.count] = 0;
            told.count++;
            due = KIND;
            return true;
        }

        private boolean takesKind(int code, int f) {
            if (!told.isFont(f) || !isWithin(code, 'A', 'C')) {
                return false;
            }
            told.kind[f] = code - 'A';
            due = BREADTH;
            return true;
        }

        private boolean takesBreadth(int code, int f) {
            if (!told.isFont(f) || !isWithin(code, '1', '9')) {
                return false;
            }
            told.breadth[f] = code - '0';
            due = FIRST_LETTER;
            return true;
        }

        private boolean takesLetter(int code, int f) {
            if (!told.isFont(f) || !isWithin(code, 'a', 'p')) {
                return false;
            }
            int bit = 1 << (code - 'a');
            if ((told.has[f] & bit) != 0 || Integer.bitCount(told.has[f]) >= MOST_OF_ONE_FONT) {
                return false;
            }
            told.has[f] |= bit;
            due = LETTER_OR_SIGN;
            return true;
        }
    }

    /** A WRITING, that is or that is supposed. */
    private static final class Writing {
        final int[] row = new int[MOST_LETTERS];
        int count;

        boolean add(int l) {
            if (!isWithin(count, 0, MOST_LETTERS - 1)) {
                return false;
            }
            row[count] = l;
            count++;
            return true;
        }

        boolean drop(int n) {
            if (!isWithin(n, 0, count)) {
                return false;
            }
            count -= n;
            return true;
        }

        void takeFrom(Writing other) {
            count = other.count;
            for (int k = 0; k < MOST_LETTERS; k++) {
                row[k] = other.row[k];
            }
        }
    }

    /** A PREFERENCE, that is or that is supposed: FONTS, the first one first. */
    private static final class Preference {
        final int[] row = new int[MOST_FONTS];
        int count;

        void begin(int fontCount) {
            count = Math.min(fontCount, MOST_FONTS);
            for (int place = 0; place < count; place++) {
                row[place] = place;
            }
        }

        int placeOf(int f) {
            for (int place = 0; place < count; place++) {
                if (row[place] == f) {
                    return place;
                }
            }
            return NONE;
        }

        boolean lead(int f) {
            int was = placeOf(f);
            if (was == NONE) {
                return false;
            }
            for (int place = was; place > 0; place--) {
                row[place] = row[place - 1];
            }
            row[0] = f;
            return true;
        }

        void takeFrom(Preference other) {
            count = other.count;
            for (int place = 0; place < MOST_FONTS; place++) {
                row[place] = other.row[place];
            }
        }
    }

    /** The FONTS that were PREFERRED of late, the latest first. */
    private static final class Recent {
        final int[] row = new int[MOST_KEPT];
        int count;

        void keep(int f) {
            for (int k = MOST_KEPT - 1; k > 0; k--) {
                row[k] = row[k - 1];
            }
            row[0] = f;
            count = Math.min(count + 1, MOST_KEPT);
        }
    }

    /** CLUSTERS of a WRITING and their FONTS in BEST. */
    private static final class Setting {
        /** More CHANGES than any WRITING can have: a FONT that can't be taken. */
        private static final int FAR = 1000;

        final int[] first = new int[MOST_LETTERS];
        final int[] length = new int[MOST_LETTERS];
        final int[] fitting = new int[MOST_LETTERS];
        final int[] chosen = new int[MOST_LETTERS];
        final int[] runOf = new int[MOST_LETTERS];
        int count;
        int boxes;
        int runs;
        private final int[] letters = new int[MOST_LETTERS];
        /** The fewest CHANGES behind a CLUSTER, by the FONT that it has. */
        private final int[][] behind = new int[MOST_LETTERS][MOST_FONTS];

        void make(Writing writing, FontRow fonts, Preference preference, int allowed) {
            cut(writing);
            findFitting(fonts, allowed);
            findBehind(allowed);
            choose(preference);
        }

        boolean isCluster(int k) {
            return isWithin(k, 0, count - 1);
        }

        int changes() {
            return Math.max(runs - 1, 0);
        }

        int advance(FontRow fonts) {
            int sum = 0;
            for (int k = 0; k < count; k++) {
                sum += fonts.step(chosen[k]);
            }
            return sum;
        }

        int clustersIn(int f) {
            int found = 0;
            for (int k = 0; k < count; k++) {
                if (chosen[k] == f) {
                    found++;
                }
            }
            return found;
        }

        int firstOfRun(int r) {
            int k = 0;
            while (k < count - 1 && runOf[k] != r) {
                k++;
            }
            return k;
        }

        int clustersOfRun(int r) {
            int found = 0;
            for (int k = 0; k < count; k++) {
                if (runOf[k] == r) {
                    found++;
                }
            }
            return found;
        }

        boolean isServedBy(int set) {
            for (int k = 0; k < count; k++) {
                if (fitting[k] != 0 && (fitting[k] & set) == 0) {
                    return false;
                }
            }
            return true;
        }

        private void cut(Writing writing) {
            count = 0;
            for (int k = 0; k < writing.count; k++) {
                int l = writing.row[k];
                if (count == 0 || l < FIRST_MARK) {
                    first[count] = k;
                    length[count] = 0;
                    letters[count] = 0;
                    count++;
                }
                length[count - 1]++;
                letters[count - 1] |= 1 << l;
            }
        }

        private void findFitting(FontRow fonts, int allowed) {
            boxes = 0;
            for (int k = 0; k < count; k++) {
                fitting[k] = fonts.fitting(letters[k]) & allowed;
                if (fitting[k] == 0) {
                    boxes++;
                }
            }
        }

        private void findBehind(int allowed) {
            int least = 0;
            for (int k = count - 1; k >= 0; k--) {
                int open = fitting[k] == 0 ? allowed : fitting[k];
                int leastHere = FAR;
                for (int f = 0; f < MOST_FONTS; f++) {
                    int stay = k + 1 < count ? behind[k + 1][f] : 0;
                    behind[k][f] = (open >> f & 1) == 0 ? FAR : Math.min(stay, least + 1);
                    leastHere = Math.min(leastHere, behind[k][f]);
                }
                least = leastHere;
            }
        }

        private void choose(Preference preference) {
            runs = 0;
            for (int k = 0; k < count; k++) {
                int before = k == 0 ? NONE : chosen[k - 1];
                chosen[k] = firstOfBest(k, before, preference);
                if (chosen[k] != before) {
                    runs++;
                }
                runOf[k] = runs - 1;
            }
        }

        /** Cheapest first, then by PREFERENCE: what lies ahead is settled and the same for all. */
        private int firstOfBest(int k, int before, Preference preference) {
            int found = 0;
            int least = FAR;
            for (int place = 0; place < preference.count; place++) {
                int f = preference.row[place];
                int changes = behind[k][f] + (f == before || before == NONE ? 0 : 1);
                if (changes < least) {
                    least = changes;
                    found = f;
                }
            }
            return found;
        }
    }

    /** READINGS: how many CLUSTERS each FONT had in BEST then, and how far they go together. */
    private static final class Readings {
        int count;
        private final int[] value = new int[MOST_READINGS];
        private final int[][] clusters = new int[MOST_READINGS][MOST_FONTS];

        boolean add(Setting setting, int v) {
            if (!isWithin(count, 0, MOST_READINGS - 1)) {
                return false;
            }
            value[count] = v;
            for (int f = 0; f < MOST_FONTS; f++) {
                clusters[count][f] = setting.clustersIn(f);
            }
            count++;
            return true;
        }

        /** Whether all are so if the STEP of one FONT were another, all other FONTS being as they are. */
        boolean areSo(FontRow fonts, int changed, int step) {
            for (int r = 0; r < count; r++) {
                int sum = 0;
                for (int f = 0; f < fonts.count; f++) {
                    sum += clusters[r][f] * (f == changed ? step : fonts.step(f));
                }
                if (sum != value[r]) {
                    return false;
                }
            }
            return true;
        }
    }
}
