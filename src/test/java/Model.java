import java.util.ArrayList;
import java.util.HashSet;
import java.util.List;
import java.util.Set;
import java.util.regex.Matcher;
import java.util.regex.Pattern;

/**
 * The document told a second time, by other means than the program's: rows of the machine whose own
 * exceptions are the FAULTS, a pattern for texts, a search by rising CHANGES for BEST.
 */
final class Model {
    static class Plain {
        int width;
        final List<Integer> has = new ArrayList<>();

        int kind() { return 0; }

        int step() { return width; }

        int told(Model m) { return plainTold(m); }

        final int plainTold(Model m) { m.leave(1); return width; }

        int sampled(Model m) { m.leave(4); return has.size(); }
    }

    static class Broad extends Plain {
        @Override int kind() { return 1; }

        @Override int step() { return width + 1; }

        @Override int told(Model m) { m.leave(2); return super.told(m) + 100; }
    }

    static final class Twice extends Broad {
        @Override int kind() { return 2; }

        @Override int step() { return width + width; }

        @Override int told(Model m) { m.leave(3); return super.told(m) + plainTold(m); }

        @Override int sampled(Model m) { m.leave(5); return 50; }
    }

    private record Reading(List<Integer> choice, int v) { }

    private final Object[] sheets = new Object[4];
    private List<Plain> fonts = new ArrayList<>();
    private List<Integer> writing = new ArrayList<>();
    private List<Integer> preference = new ArrayList<>();
    private final List<Integer> preferred = new ArrayList<>();
    private final List<Reading> readings = new ArrayList<>();
    private int tally, trace, fault;
    private long check;

    private void leave(int body) { trace = 31 * trace + body; }

    // ---- faults: what the machine throws

    private interface Work { long answer(); }

    private long guarded(Work work, boolean isLong) {
        fault = 0;
        try {
            return work.answer();
        } catch (NullPointerException e) {
            fault = 1;
        } catch (ClassCastException | ArrayStoreException e) {
            fault = 2;
        } catch (IndexOutOfBoundsException e) {
            fault = 3;
        } catch (NegativeArraySizeException e) {
            fault = 4;
        }
        return isLong ? Long.MIN_VALUE : -10 - fault;
    }

    private static int[] taken(Object row, int lane, int i, int n) {
        int size = lane == 0 ? ((byte[]) row).length : lane == 1 ? ((short[]) row).length : ((int[]) row).length;
        // A length below 0 must fault here; one that no row has is found out by the check behind.
        int[] cells = new int[Math.min(n, 60)];
        java.util.Objects.checkFromIndexSize(i, n, size);
        for (int k = 0; k < n; k++) {
            cells[k] = ((Number) java.lang.reflect.Array.get(row, i + k)).intValue();
        }
        return cells;
    }

    private static boolean in(int v, int least, int most) { return least <= v && v <= most; }

    // ---- 1

    private static final Pattern TEXT = Pattern.compile("f(;[ABC][1-9][a-p]{1,8}){1,4}");

    private static boolean doubled(String text) {
        for (String font : text.split(";")) {
            Set<Character> seen = new HashSet<>();
            for (int k = 2; k < font.length(); k++) {
                if (!seen.add(font.charAt(k))) {
                    return true;
                }
            }
        }
        return false;
    }

    private static boolean goesOn(String head) {
        Matcher m = TEXT.matcher(head);
        return (m.matches() || m.hitEnd()) && !doubled(head);
    }

    long fonts(int sheet, int lane, int i, int n) {
        fault = 0;
        if (!in(sheet, 0, 3)) return -1;
        if (!in(lane, 0, 2)) return -2;
        return guarded(() -> {
            int[] codes = taken(sheets[sheet], lane, i, n);
            StringBuilder text = new StringBuilder();
            for (int k = 0; k < n; k++) {
                text.append(codes[k] < 33 || codes[k] > 126 ? '#' : (char) codes[k]);
                if (!goesOn(text.toString())) return -100 - k;
            }
            if (!TEXT.matcher(text).matches()) return -100 - n;
            begin(text.toString());
            return fonts.size();
        }, false);
    }

    private void begin(String text) {
        fonts = new ArrayList<>();
        preference = new ArrayList<>();
        for (String told : text.substring(2).split(";")) {
            Plain font = told.charAt(0) == 'A' ? new Plain() : told.charAt(0) == 'B' ? new Broad() : new Twice();
            font.width = told.charAt(1) - '0';
            for (char c : told.substring(2).toCharArray()) font.has.add(c - 'a');
            preference.add(fonts.size());
            fonts.add(font);
        }
        writing = new ArrayList<>();
        preferred.clear();
        readings.clear();
    }

    long ofFont(int f, int what) {
        if (!in(f, 0, fonts.size() - 1)) return -1;
        Plain font = fonts.get(f);
        int set = 0;
        for (int l : font.has) set += 1 << l;
        int[] all = {font.kind(), font.width, font.step(), set, preference.indexOf(f)};
        return in(what, 0, 4) ? all[what] : -2;
    }

    long width(int f, int v) {
        if (!in(f, 0, fonts.size() - 1)) return -1;
        if (!in(v, 1, 9)) return -2;
        int was = fonts.get(f).width;
        fonts.get(f).width = v;
        return was;
    }

    // ---- 2

    long write(int sheet, int lane, int i, int n) {
        fault = 0;
        if (!in(sheet, 0, 3)) return -1;
        if (!in(lane, 0, 2) || !in(n, 0, 24)) return -2;
        return guarded(() -> {
            int[] cells = taken(sheets[sheet], lane, i, n);
            if (fonts.isEmpty()) return -3;
            for (int l : cells) if (!in(l, 0, 15)) return -2;
            if (writing.size() + n > 24) return -4;
            for (int l : cells) {
                writing.add(l);
                tally++;
                check = check * 31 + (l + 1);
            }
            return writing.size();
        }, false);
    }

    long erase(int n) {
        if (!in(n, 0, writing.size())) return -2;
        writing.subList(writing.size() - n, writing.size()).clear();
        return writing.size();
    }

    long letter(int k) { return in(k, 0, writing.size() - 1) ? writing.get(k) : -1; }

    /** Lists of letters, one a cluster. */
    private static List<List<Integer>> clusters(List<Integer> letters) {
        List<List<Integer>> all = new ArrayList<>();
        for (int l : letters) {
            if (l < 12 || all.isEmpty()) all.add(new ArrayList<>());
            all.get(all.size() - 1).add(l);
        }
        return all;
    }

    private Set<Integer> fitting(List<Integer> cluster, int left) {
        Set<Integer> set = new HashSet<>();
        for (int f = 0; f < fonts.size(); f++) {
            if (f != left && fonts.get(f).has.containsAll(cluster)) set.add(f);
        }
        return set;
    }

    /** BEST, without the font that is left out: the first choice by preference with rising changes. */
    private List<Integer> bestOf(List<Integer> letters, List<Integer> order, int left) {
        List<Set<Integer>> open = new ArrayList<>();
        List<Integer> others = new ArrayList<>(order);
        others.remove((Integer) left);
        for (List<Integer> cluster : clusters(letters)) {
            Set<Integer> fit = fitting(cluster, left);
            open.add(fit.isEmpty() ? new HashSet<>(others) : fit);
        }
        for (int changes = 0; ; changes++) {
            List<Integer> choice = new ArrayList<>();
            if (found(choice, open, others, changes, new HashSet<>())) return choice;
        }
    }

    private static boolean found(List<Integer> choice, List<Set<Integer>> open, List<Integer> order, int changes,
            Set<List<Integer>> vain) {
        if (choice.size() == open.size()) return true;
        int before = choice.isEmpty() ? -1 : choice.get(choice.size() - 1);
        List<Integer> here = List.of(choice.size(), before, changes);
        if (vain.contains(here)) return false;
        for (int f : order) {
            int left = before == -1 || before == f ? changes : changes - 1;
            if (left < 0 || !open.get(choice.size()).contains(f)) continue;
            choice.add(f);
            if (found(choice, open, order, left, vain)) return true;
            choice.remove(choice.size() - 1);
        }
        vain.add(here);
        return false;
    }

    private List<Integer> best() { return bestOf(writing, preference, -1); }

    private static int changes(List<Integer> choice) {
        int n = 0;
        for (int k = 1; k < choice.size(); k++) if (!choice.get(k).equals(choice.get(k - 1))) n++;
        return n;
    }

    private int advance(List<Integer> choice) {
        int sum = 0;
        for (int f : choice) sum += fonts.get(f).step();
        return sum;
    }

    private int boxes(List<Integer> letters) {
        int n = 0;
        for (List<Integer> cluster : clusters(letters)) if (fitting(cluster, -1).isEmpty()) n++;
        return n;
    }

    private static int set(Iterable<Integer> numbers) {
        int set = 0;
        for (int k : numbers) set |= 1 << k;
        return set;
    }

    long ofCluster(int k, int what) {
        List<List<Integer>> all = clusters(writing);
        if (!in(k, 0, all.size() - 1)) return -1;
        if (!in(what, 0, 4)) return -2;
        int first = 0;
        for (int j = 0; j < k; j++) first += all.get(j).size();
        List<Integer> best = best();
        int[] answers = {first, all.get(k).size(), set(fitting(all.get(k), -1)), best.get(k),
            changes(best.subList(0, k + 1))};
        return answers[what];
    }

    long ofRun(int r, int what) {
        List<Integer> best = best();
        if (best.isEmpty() || !in(r, 0, changes(best))) return -1;
        if (!in(what, 0, 3)) return -2;
        int begin = 0;
        while (changes(best.subList(0, begin + 1)) < r) begin++;
        int end = begin;
        while (end < best.size() && changes(best.subList(0, end + 1)) == r) end++;
        int[] answers = {best.get(begin), begin, end - begin, advance(best.subList(begin, end))};
        return answers[what];
    }

    long prefer(int f) {
        int was = preference.indexOf(f);
        if (was < 0) return -1;
        preference.remove(was);
        preference.add(0, f);
        preferred.add(f);
        return was;
    }

    long latest(int k) {
        if (!in(k, 0, 4)) return -2;
        return k < preferred.size() ? preferred.get(preferred.size() - 1 - k) : -9;
    }

    long tally() { return tally; }

    long check() { return check; }

    long day(int sheet, int lane, int i, int n, int what) {
        fault = 0;
        if (!in(sheet, 0, 3)) return -1;
        if (!in(lane, 0, 2) || !in(n, 0, 20) || !in(what, 0, 4) && !in(what, 10, 13)) return -2;
        return guarded(() -> {
            int[] cells = taken(sheets[sheet], lane, i, 2 * n);
            if (fonts.isEmpty()) return -3;
            int[] most = {15, 24, 3};
            for (int k = 0; k < n; k++) {
                if (!in(cells[2 * k + 1], 20, 22)) return -2;
                if (!in(cells[2 * k], 0, most[cells[2 * k + 1] - 20])) return -2;
            }
            return told(cells, what);
        }, false);
    }

    private int told(int[] cells, int what) {
        List<Integer> letters = new ArrayList<>(writing);
        List<Integer> order = new ArrayList<>(preference);
        for (int k = 0; k < cells.length; k += 2) {
            int v = cells[k];
            boolean can = cells[k + 1] == 20 ? letters.size() < 24
                    : cells[k + 1] == 21 ? letters.size() >= v : order.contains(v);
            if (!can) return what == 1 ? k / 2 : -100 - k / 2;
            if (cells[k + 1] == 20) letters.add(v);
            if (cells[k + 1] == 21) letters = letters.subList(0, letters.size() - v);
            if (cells[k + 1] == 22) {
                order.remove((Integer) v);
                order.add(0, v);
            }
        }
        List<Integer> best = bestOf(letters, order, -1);
        switch (what) {
            case 0: return changes(best);
            case 1: return -9;
            case 2: return best.size();
            case 3: return boxes(letters);
            case 4: return advance(best);
            default: return order.contains(what - 10) ? order.indexOf(what - 10) : -9;
        }
    }

    // ---- 3

    long best(int what) {
        if (!in(what, 0, 3)) return -2;
        if (fonts.isEmpty()) return -3;
        List<Integer> best = best();
        int[] answers = {changes(best), best.isEmpty() ? 0 : changes(best) + 1, boxes(writing), advance(best)};
        return answers[what];
    }

    long without(int f) {
        if (!in(f, 0, fonts.size() - 1)) return -1;
        return fonts.size() == 1 ? -9 : changes(bestOf(writing, preference, f));
    }

    long enough(int what) {
        if (!in(what, 0, 1)) return -2;
        if (fonts.isEmpty()) return -3;
        for (int n = 0; ; n++) {
            for (int set = 0; set < 1 << fonts.size(); set++) {
                if (Integer.bitCount(set) == n && serves(set)) return what == 0 ? n : set;
            }
        }
    }

    private boolean serves(int set) {
        for (List<Integer> cluster : clusters(writing)) {
            int fit = set(fitting(cluster, -1));
            if (fit != 0 && (fit & set) == 0) return false;
        }
        return true;
    }

    // ---- 4

    long reading(int v) {
        if (fonts.isEmpty()) return -3;
        if (!in(v, 0, 500)) return -2;
        if (readings.size() == 8) return -4;
        readings.add(new Reading(best(), v));
        return readings.size() - 1;
    }

    long back(int n) {
        if (!in(n, 0, readings.size())) return -2;
        for (int k = 0; k < n; k++) readings.remove(readings.size() - 1);
        return readings.size();
    }

    private boolean readingsAreSo() {
        for (Reading r : readings) if (advance(r.choice) != r.v) return false;
        return true;
    }

    long kinds(int f) {
        if (!in(f, 0, fonts.size() - 1)) return -1;
        Plain is = fonts.get(f);
        int set = 0;
        for (Plain other : new Plain[] {new Plain(), new Broad(), new Twice()}) {
            other.width = is.width;
            fonts.set(f, other);
            if (readingsAreSo()) set += 1 << other.kind();
        }
        fonts.set(f, is);
        return set;
    }

    long widths(int f) {
        if (!in(f, 0, fonts.size() - 1)) return -1;
        Plain font = fonts.get(f);
        int is = font.width;
        int set = 0;
        for (font.width = 1; font.width <= 9; font.width++) if (readingsAreSo()) set += 1 << font.width;
        font.width = is;
        return set;
    }

    long odds(int v, int which) {
        if (!in(v, 0, 24) || !in(which, 0, 1) || fonts.isEmpty() || writing.size() == 24) return Long.MIN_VALUE;
        int upper = 0;
        for (int l = 0; l < 16; l++) {
            List<Integer> letters = new ArrayList<>(writing);
            letters.add(l);
            if (changes(bestOf(letters, preference, -1)) == v) upper++;
        }
        int gcd = java.math.BigInteger.valueOf(upper).gcd(java.math.BigInteger.valueOf(16)).intValue();
        return (which == 0 ? upper : 16) / gcd;
    }

    // ---- 5

    long sheet(int k, int lane, int n) {
        fault = 0;
        if (!in(k, 0, 3)) return -1;
        if (!in(lane, 0, 2) || n > 60) return -2;
        return guarded(() -> {
            sheets[k] = lane == 0 ? new byte[n] : lane == 1 ? (Object) new short[n] : new int[n];
            return 1;
        }, false);
    }

    long lose(int k) {
        if (!in(k, 0, 3)) return -1;
        boolean had = sheets[k] != null;
        sheets[k] = null;
        return had ? 1 : 0;
    }

    long put(int k, int i, int v) {
        fault = 0;
        if (!in(k, 0, 3)) return -1;
        return guarded(() -> {
            if (sheets[k] instanceof byte[] row) row[i] = (byte) v;
            else if (sheets[k] instanceof short[] row) row[i] = (short) v;
            else ((int[]) sheets[k])[i] = v;
            return 1;
        }, false);
    }

    long cell(int k, int i, int lane) {
        fault = 0;
        if (!in(k, 0, 3) || !in(lane, 0, 2)) return Long.MIN_VALUE;
        return guarded(() -> lane == 0 ? ((byte[]) sheets[k])[i]
                : lane == 1 ? ((short[]) sheets[k])[i] : ((int[]) sheets[k])[i], true);
    }

    long copy(int k, int i, int other, int j, int n) {
        fault = 0;
        if (!in(k, 0, 3) || !in(other, 0, 3)) return -1;
        return guarded(() -> {
            System.arraycopy(sheets[k], i, sheets[other], j, n);
            return n;
        }, false);
    }

    long tell(int f) { return in(f, 0, fonts.size() - 1) ? fonts.get(f).told(this) : -1; }

    long sample(int f) { return in(f, 0, fonts.size() - 1) ? fonts.get(f).sampled(this) : -1; }

    long as(int f, int kind) {
        fault = 0;
        if (!in(f, 0, fonts.size() - 1)) return -1;
        if (!in(kind, 0, 2)) return -2;
        return guarded(() -> {
            Class<?>[] kinds = {Plain.class, Broad.class, Twice.class};
            kinds[kind].cast(fonts.get(f));
            return 1;
        }, false);
    }

    long trace() { return trace; }

    long fault() { return fault; }

    long many(int what) {
        int[] all = {fonts.size(), writing.size(), clusters(writing).size(), readings.size()};
        return in(what, 0, 3) ? all[what] : -2;
    }
}
