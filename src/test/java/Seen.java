/** All that an object tells of itself, by which two objects are found to be alike; its READINGS are used up. */
final class Seen {
    /** So many calls are left to whoever brings the object into its state: 512 are promised. */
    private static final int MOST_CALLS = 400;

    private final FontRuns x;
    private final StringBuilder told = new StringBuilder();
    private int calls, fonts, letters, clusters, readings, runs;

    private Seen(FontRuns x) {
        this.x = x;
    }

    static String of(FontRuns x) {
        Seen seen = new Seen(x);
        seen.lookAtAll();
        if (seen.calls > MOST_CALLS) {
            throw new IllegalStateException("too many calls: " + seen.calls);
        }
        return seen.told.toString();
    }

    private void lookAtAll() {
        name("tally").add(x.tally()).add(x.check()).name("trace").add(x.trace());
        fonts = x.many(0);
        letters = x.many(1);
        clusters = x.many(2);
        readings = x.many(3);
        name("many").add(fonts).add(letters).add(clusters).add(readings);
        name("latest").add(x.latest(0)).add(x.latest(1)).add(x.latest(2)).add(x.latest(3)).add(x.latest(4));
        runs = x.best(1);
        name("best").add(x.best(0)).add(runs).add(x.best(2)).add(x.best(3));
        name("enough").add(x.enough(1));
        lookAtFonts();
        lookAtWriting();
        for (int k = 0; k < 4; k++) {
            lookAtSheet(k);
        }
        lookAtReadings();
    }

    private void lookAtFonts() {
        for (int f = 0; f < fonts; f++) {
            name("font");
            for (int what = 0; what < 5; what++) {
                add(x.ofFont(f, what));
            }
            add(x.without(f));
        }
    }

    private void lookAtWriting() {
        name("letters");
        for (int k = 0; k < letters; k++) {
            add(x.letter(k));
        }
        for (int k = 0; k < clusters; k++) {
            name("cluster").add(x.ofCluster(k, 1)).add(x.ofCluster(k, 2)).add(x.ofCluster(k, 3)).add(x.ofCluster(k, 4));
        }
        for (int r = 0; r < runs; r++) {
            name("run").add(x.ofRun(r, 3));
        }
    }

    private void lookAtSheet(int k) {
        name("sheet");
        int lane = 0;
        long cell = x.cell(k, 0, lane);
        int fault = x.fault();
        add(cell).add(fault);
        while (fault == 2 && lane < 2) {
            lane++;
            cell = x.cell(k, 0, lane);
            fault = x.fault();
            add(cell).add(fault);
        }
        for (int i = 1; i <= 60 && cell != FontRuns.LOST; i++) {
            cell = x.cell(k, i, lane);
            add(cell);
        }
    }

    private void lookAtReadings() {
        for (int n = readings; n >= 0; n--) {
            name("readings").add(n);
            for (int f = 0; f < fonts; f++) {
                add(x.kinds(f)).add(x.widths(f));
            }
            add(x.back(1));
        }
    }

    private Seen name(String part) {
        told.append(' ').append(part);
        return this;
    }

    private Seen add(long answer) {
        calls++;
        told.append(' ').append(answer);
        return this;
    }
}
