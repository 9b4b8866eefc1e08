import java.util.Random;

/** Long runs of calls, drawn from fixed seeds, on the program and on the model. */
public final class ModelTest {
    /** No step begins behind so many calls: the longest, a text told, still ends within the 512 promised. */
    private static final int RUNS = 1700, CALLS = 440;
    private static final int[] ODD = {Integer.MIN_VALUE, Integer.MAX_VALUE, -1, -2, 61, 100, 1000};

    private final Due due;
    private final Random draw;
    private final FontRuns x = new FontRuns();
    private final Model model = new Model();
    private int calls;

    private ModelTest(Due due, int seed) {
        this.due = due;
        draw = new Random(seed);
        due.begin("seed " + seed);
    }

    public static void main(String[] args) {
        Due due = new Due();
        for (int seed = 0; seed < RUNS; seed++) {
            new ModelTest(due, seed).run();
        }
        due.end();
    }

    private void run() {
        if (draw.nextInt(10) > 0) {
            tellText();
        }
        while (calls < CALLS) {
            switch (draw.nextInt(12)) {
                case 0: tellSometimes(); break;
                case 1: case 2: case 3: writeSome(); break;
                case 4: tellDay(); break;
                case 5: rowCalls(); break;
                case 6: readSome(); break;
                case 7: fontCalls(); break;
                default: ask(); break;
            }
        }
    }

    private int below(int n) {
        return draw.nextInt(n);
    }

    /** 0 .. most, at times one beside it, seldom one far off. */
    private int near(int most) {
        int v = below(40);
        if (v == 0) {
            return ODD[below(ODD.length)];
        }
        return v == 1 ? -1 : v == 2 ? most + 1 : most < 0 ? 0 : below(most + 1);
    }

    private void is(String call, long got, long want, int... arguments) {
        calls++;
        if (got != want) {
            due.is(call + java.util.Arrays.toString(arguments), got, want);
        }
    }

    private void row(int k, int lane, int... values) {
        is("sheet", x.sheet(k, lane, values.length), model.sheet(k, lane, values.length), k, lane, values.length);
        for (int i = 0; i < values.length; i++) {
            is("put", x.put(k, i, values[i]), model.put(k, i, values[i]), k, i, values[i]);
        }
    }

    private String someText() {
        StringBuilder text = new StringBuilder("f");
        int fonts = 1 + below(4) + (below(20) == 0 ? 1 : 0);
        for (int f = 0; f < fonts; f++) {
            text.append(';').append((char) ('A' + below(3))).append(1 + below(9));
            int letters = below(4) == 0 ? 8 : 1 + below(8);
            int has = 0;
            while (Integer.bitCount(has) < letters) {
                int l = below(16);
                if ((has >> l & 1) == 0) {
                    text.append((char) ('a' + l));
                    has |= 1 << l;
                }
            }
        }
        return text.toString();
    }

    private void tellSometimes() {
        if (below(4) == 0) {
            tellText();
        }
    }

    private void tellText() {
        StringBuilder text = new StringBuilder(someText());
        if (below(3) == 0) {
            String codes = "f;ABCD0129aehpq#";
            text.setCharAt(below(text.length()), codes.charAt(below(codes.length())));
        }
        if (below(6) == 0) {
            text.setLength(below(text.length()));
        }
        int k = below(4);
        int lane = below(3);
        row(k, lane, text.chars().limit(60).toArray());
        int n = Math.min(60, text.length()) - (below(8) == 0 ? below(3) - 1 : 0);
        int i = below(10) == 0 ? below(3) - 1 : 0;
        is("fonts", x.fonts(k, lane, i, n), model.fonts(k, lane, i, n), k, lane, i, n);
    }

    private void writeSome() {
        int n = below(3) == 0 ? below(15) : below(5);
        int[] letters = new int[n];
        int bases = below(3);
        for (int k = 0; k < n; k++) {
            letters[k] = below(60) == 0 ? near(15) : bases == 0 ? below(16) : bases == 1 ? below(12) : below(3) * 6;
        }
        int lane = below(3);
        row(1, lane, letters);
        if (below(3) == 0) {
            int gone = near((int) model.many(1));
            is("erase", x.erase(gone), model.erase(gone), gone);
        }
        int asked = below(12) == 0 ? near(24) : n;
        int i = below(12) == 0 ? near(2) : 0;
        int as = below(30) == 0 ? near(2) : lane;
        is("write", x.write(1, as, i, asked), model.write(1, as, i, asked), 1, as, i, asked);
    }

    private void tellDay() {
        int n = below(6) == 0 ? below(21) : below(5);
        int[] pairs = new int[2 * n];
        for (int k = 0; k < n; k++) {
            int act = below(3);
            pairs[2 * k] = below(50) == 0 ? near(15) : act == 0 ? below(16) : act == 1 ? below(4) : below(4);
            pairs[2 * k + 1] = below(80) == 0 ? near(23) : 20 + act;
        }
        int lane = below(3);
        row(2, lane, pairs);
        for (int times = 0; times < 4; times++) {
            int what = below(2) == 0 ? below(5) : below(4) == 0 ? near(14) : 10 + below(4);
            int k = below(30) == 0 ? near(3) : 2;
            int asked = below(20) == 0 ? near(20) : n;
            int i = below(20) == 0 ? near(3) : 0;
            is("day", x.day(k, lane, i, asked, what), model.day(k, lane, i, asked, what), k, lane, i, asked, what);
        }
    }

    private void rowCalls() {
        int k = near(3), other = near(3), i = near(12), j = near(12), lane = near(2), n = near(8), v = draw.nextInt();
        switch (below(8)) {
            case 0: is("sheet", x.sheet(k, lane, i), model.sheet(k, lane, i), k, lane, i); break;
            case 1: is("lose", x.lose(k), model.lose(k), k); break;
            case 2: is("put", x.put(k, i, v), model.put(k, i, v), k, i, v); break;
            case 3: case 4: is("cell", x.cell(k, i, lane), model.cell(k, i, lane), k, i, lane); break;
            case 5: is("fonts", x.fonts(k, lane, i, j), model.fonts(k, lane, i, j), k, lane, i, j); break;
            default: is("copy", x.copy(k, i, other, j, n), model.copy(k, i, other, j, n), k, i, other, j, n); break;
        }
        is("fault", x.fault(), model.fault());
    }

    private void readSome() {
        int v = below(3) > 0 ? (int) Math.max(0, model.best(3)) + below(3) * below(4) : near(500);
        if (below(3) == 0) {
            int n = near((int) model.many(3));
            is("back", x.back(n), model.back(n), n);
        }
        is("reading", x.reading(v), model.reading(v), v);
        for (int f = 0; f < 4; f++) {
            is("kinds", x.kinds(f), model.kinds(f), f);
            is("widths", x.widths(f), model.widths(f), f);
        }
    }

    private void fontCalls() {
        int f = near((int) model.many(0) - 1), v = near(10);
        switch (below(5)) {
            case 0: is("width", x.width(f, v), model.width(f, v), f, v); break;
            case 1: is("tell", x.tell(f), model.tell(f), f); break;
            case 2: is("sample", x.sample(f), model.sample(f), f); break;
            case 3: is("as", x.as(f, v / 3), model.as(f, v / 3), f, v / 3); break;
            default: is("prefer", x.prefer(f), model.prefer(f), f); break;
        }
        is("trace", x.trace(), model.trace());
        is("fault", x.fault(), model.fault());
    }

    private void ask() {
        int f = near((int) model.many(0) - 1), what = near(4), k = near((int) model.many(2) - 1), v = near(24);
        switch (below(14)) {
            case 0: is("ofFont", x.ofFont(f, what), model.ofFont(f, what), f, what); break;
            case 1: is("letter", x.letter(v), model.letter(v), v); break;
            case 2: case 3: is("ofCluster", x.ofCluster(k, what), model.ofCluster(k, what), k, what); break;
            case 4: case 5: is("ofRun", x.ofRun(k / 2, what), model.ofRun(k / 2, what), k / 2, what); break;
            case 6: is("latest", x.latest(what), model.latest(what), what); break;
            case 7: is("tally", x.tally(), model.tally()); break;
            case 8: is("check", x.check(), model.check()); break;
            case 9: is("best", x.best(what), model.best(what), what); break;
            case 10: is("without", x.without(f), model.without(f), f); break;
            case 11: is("enough", x.enough(what), model.enough(what), what); break;
            case 12: askOdds(v); break;
            default: is("many", x.many(what), model.many(what), what); break;
        }
    }

    private void askOdds(int v) {
        int near = below(3) == 0 ? v : (int) model.best(0) + below(3) - 1;
        int which = near(1);
        is("odds", x.odds(near, which), model.odds(near, which), near, which);
    }
}
