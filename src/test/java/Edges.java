import java.util.function.Supplier;
import java.util.function.ToLongFunction;

/** Edges of a call: each is tried on an object of its own that was brought into the same state. */
final class Edges {
    static final int UNKNOWN = -1, OUTSIDE = -2, STATE = -3, FULL = -4, NONE = -9;
    static final int NULL = 1, CAST = 2, INDEX = 3, SIZE = 4;
    static final int MIN = Integer.MIN_VALUE, MAX = Integer.MAX_VALUE;
    static final long LOST = Long.MIN_VALUE;

    final Due due = new Due();
    private Supplier<FontRuns> state = FontRuns::new;
    private boolean namesFaults;

    /** What follows is a call that names no FAULTS: fault() stays through it, whatever it answers. */
    void of(String what, Supplier<FontRuns> before) {
        state = before;
        namesFaults = false;
        due.begin(what);
    }

    /** What follows is a call that names FAULTS. */
    void ofFaulting(String what, Supplier<FontRuns> before) {
        of(what, before);
        namesFaults = true;
    }

    /** An object in the state, whose fault() is not 0 and not the one that is due. */
    private FontRuns made(int dueFault) {
        FontRuns x = state.get();
        if (dueFault == SIZE) {
            x.put(0, -1, 0);
        } else {
            x.sheet(0, 0, -1);
        }
        return x;
    }

    /** Answers so, whatever it changes. */
    void answers(String name, ToLongFunction<FontRuns> call, long want) {
        FontRuns x = made(0);
        int before = x.fault();
        due.is(name, call.applyAsLong(x), want);
        due.is(name + ", fault()", x.fault(), namesFaults ? 0 : before);
    }

    /** Answers so and changes nothing but fault(), and that as told: what is refused, what only asks. */
    void still(String name, ToLongFunction<FontRuns> call, long want) {
        stillWith(name, call, want, 0);
    }

    void faults(String name, ToLongFunction<FontRuns> call, int fault) {
        stillWith(name, call, -10 - fault, fault);
    }

    void lost(String name, ToLongFunction<FontRuns> call, int fault) {
        stillWith(name, call, LOST, fault);
    }

    private void stillWith(String name, ToLongFunction<FontRuns> call, long want, int fault) {
        FontRuns x = made(fault);
        int before = x.fault();
        due.is(name, call.applyAsLong(x), want);
        due.is(name + ", fault()", x.fault(), namesFaults ? fault : before);
        due.same(name + " changes nothing", Seen.of(x), Seen.of(made(fault)));
    }

    void end() {
        due.end();
    }

    // ---- states that several tests begin with

    /** Four fonts of each kind, thirteen letters, other preference and widths, two readings; sheet 3 has nothing. */
    static FontRuns lived() {
        FontRuns x = Due.withWriting(Due.FOUR, Due.MIXED);
        Due.row(x, 2, 1, 5, 20, 1, 21, 3, 22);
        x.prefer(2);
        x.prefer(1);
        x.width(3, 8);
        x.reading(47);
        x.reading(400);
        x.tell(2);
        return x;
    }

    /** Rows as in lived(), but no fonts. */
    static FontRuns fontless() {
        FontRuns x = new FontRuns();
        Due.row(x, 0, 0, Due.FOUR.chars().toArray());
        Due.row(x, 1, 2, Due.MIXED);
        Due.row(x, 2, 1, 5, 20, 1, 21, 3, 22);
        return x;
    }

    /** Two fonts that take turns in a full writing of 24 letters, each a cluster and a run; row 1 has 24 ints. */
    static FontRuns full() {
        FontRuns x = Due.withFonts("f;A1a;C9b");
        Due.written(x, turns(24));
        return x;
    }

    /** 0, 1, 0, 1 .. */
    static int[] turns(int n) {
        int[] letters = new int[n];
        for (int k = 0; k < n; k++) {
            letters[k] = k % 2;
        }
        return letters;
    }

    static int[] all(int n, int v) {
        int[] row = new int[n];
        java.util.Arrays.fill(row, v);
        return row;
    }
}
