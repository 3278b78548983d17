import java.math.BigInteger;
import java.util.ArrayList;
import java.util.List;
import java.util.regex.Matcher;
import java.util.regex.Pattern;

/**
 * The document said once more, as plainly as it can be and by other means than the class
 * (regular expressions, fractions of big numbers, every FOOT tried, rows of Java's own types),
 * so that ModelTest can hold the one against the other.
 */
final class Model {
    static final int NONE = -1, BAD = -2, NOT = -3, FULL = -4;

    private static final String ONE = "[0-9](?:0[2-9]|[1-9][0-9])";
    private static final Pattern[] WELL = {
        Pattern.compile(ONE + "(?:;" + ONE + "){0,5}"), Pattern.compile(ONE)};
    private static final int[] CAPACITY = {23, 3};
    private static final int[][] BOUNDS = {
        {0, 999}, {1, 12}, {1, 30}, {0, 99}, {0, 16}, {0, 16}, {0, 16}, {0, 16}, {0, 16}, {0, 16}, {1, 9}, {0, 9}};

    private final StringBuilder[] texts = {new StringBuilder(), new StringBuilder()};
    private final int[] begins = new int[6];
    private final int[] lee = new int[2];
    private final int[] values = {20, 9, 3, 5, 0, 2, 3, 1, 1, 1, 2, 1};
    private final List<int[]> seen = new ArrayList<>();
    private final Object[] sheets = new Object[4];
    private int finding = 0;
    private int seed;

    int type(int text, int b) {
        if (out(text, 0, 1) || out(b, 0, 255)) return BAD;
        if (texts[text].length() == CAPACITY[text]) return FULL;
        texts[text].append((char) b);
        return texts[text].length();
    }

    int wipe(int text) {
        if (out(text, 0, 1)) return BAD;
        int had = texts[text].length();
        texts[text].setLength(0);
        return had;
    }

    int undo(int text) {
        if (out(text, 0, 1)) return BAD;
        if (texts[text].length() == 0) return NOT;
        texts[text].setLength(texts[text].length() - 1);
        return texts[text].length();
    }

    int fault(int text) {
        if (out(text, 0, 1)) return BAD;
        String s = texts[text].toString();
        if (s.isEmpty()) return NONE;
        for (int p = 0; p < s.length(); p++) {
            Matcher m = WELL[text].matcher(s.substring(0, p + 1));
            if (!m.matches() && !m.hitEnd()) return p;
        }
        return WELL[text].matcher(s).matches() ? NONE : s.length();
    }

    private List<int[]> told(int text) {
        List<int[]> told = new ArrayList<>();
        if (texts[text].length() == 0 || fault(text) != NONE) return told;
        for (String one : texts[text].toString().split(";")) {
            told.add(new int[] {Integer.parseInt(one.substring(0, 1)), Integer.parseInt(one.substring(1))});
        }
        return told;
    }

    int swell(int swell, int what) {
        List<int[]> swells = told(0);
        if (out(swell, 0, swells.size() - 1) || out(what, 0, 1)) return BAD;
        return swells.get(swell)[what];
    }

    int roll(int what) {
        if (out(what, 0, 1)) return BAD;
        return told(1).isEmpty() ? NONE : told(1).get(0)[what];
    }

    int begins(int swell, int v) {
        if (out(swell, 0, 5) || out(v, 0, 98)) return BAD;
        int was = begins[swell];
        begins[swell] = v;
        return was;
    }

    int lee(int what, int v) {
        if (out(what, 0, 1) || out(v, 0, 399)) return BAD;
        int was = lee[what];
        lee[what] = v;
        return was;
    }

    int set(int what, int v) {
        if (out(what, 0, 11) || out(v, BOUNDS[what][0], BOUNDS[what][1])) return BAD;
        int was = values[what];
        values[what] = v;
        return was;
    }

    private int open(List<int[]> swells, int tenth) {
        int sum = 0;
        for (int i = 0; i < swells.size(); i++) {
            int at = tenth + begins[i];
            int nearest = Integer.MAX_VALUE;
            for (int trough = 0; trough <= at + 99; trough += swells.get(i)[1]) {
                nearest = Math.min(nearest, Math.abs(at - trough));
            }
            sum += swells.get(i)[0] * nearest;
        }
        return sum;
    }

    private boolean inLee(int tenth) {
        return tenth >= lee[0] && tenth <= lee[0] + lee[1] - 1;
    }

    private int height(List<int[]> swells, int tenth) {
        int sum = open(swells, tenth);
        return inLee(tenth) ? sum >> 1 : sum;
    }

    private int[] allHeights() {
        List<int[]> swells = told(0);
        int[] all = new int[400];
        for (int t = 0; t < 400; t++) all[t] = height(swells, t);
        return all;
    }

    int high(int tenth) {
        return out(tenth, 0, 399) ? BAD : height(told(0), tenth);
    }

    private int move(int[] h, int t) {
        if (t == 0 || t == 399) return 0;
        if (h[t - 1] <= h[t] && h[t + 1] < h[t]) return 1;
        if (h[t + 1] > h[t]) return 2;
        return h[t + 1] < h[t] ? 3 : 0;
    }

    int does(int tenth) {
        return out(tenth, 0, 399) ? BAD : move(allHeights(), tenth);
    }

    int leans(int tenth) {
        if (out(tenth, 0, 399)) return BAD;
        List<int[]> roll = told(1);
        if (roll.isEmpty() || roll.get(0)[0] == 0) return 0;
        int length = roll.get(0)[1];
        double quarter = length / 4.0;
        int at = tenth % length;
        return at < quarter || at >= 3 * quarter ? 1 : 2;
    }

    private List<Integer> crests(int from) {
        int[] h = allHeights();
        List<Integer> crests = new ArrayList<>();
        for (int t = from; t < 400; t++) if (move(h, t) == 1) crests.add(t);
        return crests;
    }

    int crest(int tenth, int k) {
        if (out(tenth, 0, 399) || out(k, 1, 99)) return BAD;
        List<Integer> crests = crests(tenth);
        return crests.size() < k ? NONE : crests.get(k - 1);
    }

    int seventh(int tenth) {
        if (out(tenth, 0, 399)) return BAD;
        int[] h = allHeights();
        List<Integer> crests = crests(tenth);
        crests = crests.subList(0, Math.min(7, crests.size()));
        int place = NONE;
        for (int k = crests.size(); k >= 1; k--) {
            if (place == NONE || h[crests.get(k - 1)] >= h[crests.get(place - 1)]) place = k;
        }
        return place;
    }

    int lull(int tenth, int many, int what) {
        if (out(tenth, 0, 399) || out(many, 1, 100) || out(what, 0, 1)) return BAD;
        int[] h = allHeights();
        int[] lull = {NONE, NONE};
        for (int t = 400 - many; t >= tenth; t--) {
            int most = h[t], least = h[t];
            for (int u = t; u < t + many; u++) {
                if (h[u] > most) most = h[u];
                if (h[u] < least) least = h[u];
            }
            if (lull[0] == NONE || most - least <= lull[1]) lull = new int[] {t, most - least};
        }
        return lull[what];
    }

    private int stepOf(int foot, int[] h, int t) {
        if (foot > h[t] + values[3]) return 4;
        return move(h, t);
    }

    int step(int tenth) {
        return out(tenth, 0, 399) ? BAD : stepOf(values[0], allHeights(), tenth);
    }

    int fall(int tenth) {
        if (out(tenth, 0, 399)) return BAD;
        int[] setting = {7, 4, 5, 6};
        int step = step(tenth);
        return step == 4 ? 16 : Math.min(16, values[setting[step]] + values[9]);
    }

    /** The TENTHS in which one comes to the RUNGS; a last NONE: one is CAUGHT. */
    private List<Integer> rungs(int tenth) {
        int[] h = allHeights();
        List<Integer> rungs = new ArrayList<>();
        int at = tenth;
        for (int k = 1; k <= values[1]; k++) {
            at += values[10];
            while (at <= 399 && leans(at) == 1) at++;
            boolean caught = at > 399 || h[at] > values[0] + k * values[2];
            rungs.add(caught ? NONE : at);
            if (caught) break;
        }
        return rungs;
    }

    int climb(int tenth) {
        if (out(tenth, 0, 399)) return BAD;
        List<Integer> rungs = rungs(tenth);
        return rungs.get(rungs.size() - 1);
    }

    int bangs(int tenth) {
        if (out(tenth, 0, 399)) return BAD;
        int bangs = 0;
        for (int rung : rungs(tenth)) if (rung != NONE && leans(rung) == 2) bangs++;
        return bangs;
    }

    private BigInteger[] fraction(int tenth) {
        if (climb(tenth) == NONE) return new BigInteger[] {BigInteger.ZERO, BigInteger.ONE};
        BigInteger above = BigInteger.valueOf(16 - fall(tenth));
        BigInteger below = BigInteger.valueOf(16);
        for (int b = bangs(tenth); b > 0; b--) {
            above = above.multiply(BigInteger.valueOf(16 - values[8]));
            below = below.multiply(BigInteger.valueOf(16));
        }
        BigInteger common = above.gcd(below);
        return new BigInteger[] {above.divide(common), below.divide(common)};
    }

    long safe(int tenth, int what) {
        if (out(tenth, 0, 399) || out(what, 0, 1)) return Long.MIN_VALUE + 2;
        return fraction(tenth)[what].longValueExact();
    }

    int best(int tenth, int within) {
        if (out(tenth, 0, 399) || out(within, 1, 100)) return BAD;
        int best = tenth;
        BigInteger[] chance = fraction(tenth);
        for (int t = tenth; t < tenth + within && t <= 399; t++) {
            BigInteger[] other = fraction(t);
            if (other[0].multiply(chance[1]).compareTo(chance[0].multiply(other[1])) > 0) {
                best = t;
                chance = other;
            }
        }
        return best;
    }

    int call(int tenth, int within) {
        if (out(tenth, 0, 399) || out(within, 1, 100)) return BAD;
        return Math.max(NONE, best(tenth, within) - values[11]);
    }

    int down(int tenth, int within, int what) {
        if (out(tenth, 0, 399) || out(within, 1, 100) || out(what, 0, 1)) return BAD;
        int[] h = allHeights();
        for (int far = 0;; far++) {
            for (int t = tenth; t < tenth + within && t <= 399; t++) {
                if (h[t] == values[0] + far || h[t] == values[0] - far) return what == 0 ? t : far;
            }
        }
    }

    int saves() {
        List<int[]> swells = told(0);
        int with = NONE, without = NONE;
        for (int t = 0; t <= 399; t++) {
            if (inLee(t)) {
                with = Math.max(with, height(swells, t));
                without = Math.max(without, open(swells, t));
            }
        }
        return with == NONE ? NONE : without - with;
    }

    int ladder(int tenth, int many) {
        if (out(tenth, 0, 399) || out(many, 1, 100)) return BAD;
        int[] h = allHeights();
        int best = 0, leastAir = 401, leastHigher = 401;
        for (int foot = 0; foot <= 999; foot++) {
            int air = 0, higher = 0;
            for (int t = tenth; t < tenth + many && t <= 399; t++) {
                if (stepOf(foot, h, t) == 4) air++;
                if (h[t] > foot) higher++;
            }
            if (air < leastAir || air == leastAir && higher < leastHigher) {
                best = foot;
                leastAir = air;
                leastHigher = higher;
            }
        }
        return best;
    }

    int seen(int tenth, int high) {
        if (out(tenth, 0, 399) || out(high, 0, 3000)) return BAD;
        if (seen.size() == 8) return FULL;
        seen.add(new int[] {tenth, high});
        return seen.size();
    }

    int forget() {
        int had = seen.size();
        seen.clear();
        return had;
    }

    int read(int s) {
        if (out(s, 0, 3)) return BAD;
        if (sheets[s] == null) return find(1);
        int took = 0;
        while (2 * took + 1 < items(s)) {
            if (seen(item(s, 2 * took), item(s, 2 * took + 1)) < 0) break;
            took++;
        }
        return took;
    }

    int learn(int swell, int i) {
        List<int[]> swells = told(0);
        if (out(swell, 0, swells.size() - 1) || out(i, -1, 97)) return BAD;
        List<Integer> lengths = new ArrayList<>();
        for (int length = 2; length <= 99; length++) {
            swells.get(swell)[1] = length;
            boolean so = true;
            for (int[] one : seen) so &= height(swells, one[0]) == one[1];
            if (so) lengths.add(length);
        }
        if (i == NONE) return lengths.size();
        return i < lengths.size() ? lengths.get(i) : NONE;
    }

    private int lot(int m) {
        seed = seed * 1103515245 + 12345;
        return (int) (((seed & 0xFFFFFFFFL) / 65536) % m);
    }

    int night(int start, int n) {
        if (out(n, 1, 20)) return BAD;
        seed = start;
        int up = 0, ended = 0;
        for (int who = 0; who < n; who++) {
            List<Integer> crests = crests(ended);
            if (crests.isEmpty()) break;
            int step = crests.get(0) + lot(3);
            if (step > 399) break;
            boolean falls = lot(16) < fall(step);
            for (int b = bangs(step); !falls && b > 0; b--) falls = lot(16) < values[8];
            falls |= climb(step) == NONE;
            ended = falls ? step : climb(step);
            if (!falls) up++;
        }
        return up;
    }

    int sheet(int s, int form, int n) {
        if (out(s, 0, 3) || out(form, 0, 2) || n > 48) return BAD;
        if (n < 0) return find(5);
        sheets[s] = form == 0 ? new byte[n] : form == 1 ? new short[n] : new int[n];
        return n;
    }

    int lose(int s) {
        if (out(s, 0, 3)) return BAD;
        if (sheets[s] == null) return find(1);
        int had = items(s);
        sheets[s] = null;
        return had;
    }

    private int trouble(int s, int form, int i) {
        if (sheets[s] == null) return 1;
        if (formOf(s) != form) return 3;
        return i < 0 || i >= items(s) ? 2 : 0;
    }

    int put(int s, int form, int i, int v) {
        if (out(s, 0, 3) || out(form, 0, 2)) return BAD;
        int trouble = trouble(s, form, i);
        if (trouble != 0) return find(trouble);
        store(s, i, v);
        return 1;
    }

    int get(int s, int form, int i) {
        if (out(s, 0, 3) || out(form, 0, 2)) return Integer.MIN_VALUE;
        int trouble = trouble(s, form, i);
        if (trouble == 0) return item(s, i);
        find(trouble);
        return Integer.MIN_VALUE;
    }

    int copy(int s, int i, int t, int j, int n) {
        if (out(s, 0, 3) || out(t, 0, 3)) return BAD;
        if (sheets[s] == null || sheets[t] == null) return find(1);
        if (formOf(s) != formOf(t)) return find(4);
        try {
            System.arraycopy(sheets[s], i, sheets[t], j, n);
        } catch (IndexOutOfBoundsException e) {
            return find(2);
        }
        return 1;
    }

    int write(int tenth, int s) {
        if (out(tenth, 0, 399) || out(s, 0, 3)) return BAD;
        if (sheets[s] == null) return find(1);
        int many = 0;
        while (many < items(s) && tenth + many <= 399) {
            store(s, many, high(tenth + many));
            many++;
        }
        return many;
    }

    int count(int what) {
        if (out(what, 0, 8)) return BAD;
        int heights = 0;
        for (int[] one : told(0)) heights += one[0];
        int greatest = 0;
        for (int h : allHeights()) greatest = Math.max(greatest, h);
        int[] counts = {told(0).size(), texts[0].length(), texts[1].length(), heights, crests(0).size(),
            seen.size(), values[0], greatest, finding};
        return counts[what];
    }

    long digest() {
        List<Long> all = new ArrayList<>();
        for (int what = 0; what <= 7; what++) all.add((long) count(what));
        for (int text = 0; text <= 1; text++) all.add((long) fault(text));
        for (int s = 0; s < told(0).size(); s++) {
            all.addAll(List.of((long) swell(s, 0), (long) swell(s, 1), (long) learn(s, NONE), (long) learn(s, 0)));
        }
        all.addAll(List.of((long) roll(0), (long) roll(1)));
        for (int t : new int[] {0, 1, 37, 200, 399}) {
            all.addAll(List.of((long) high(t), (long) does(t), (long) leans(t), (long) crest(t, 2), (long) seventh(t)));
            all.addAll(List.of((long) lull(t, 20, 0), (long) lull(t, 20, 1), (long) step(t), (long) fall(t)));
            all.addAll(List.of((long) climb(t), (long) bangs(t), safe(t, 0), safe(t, 1)));
            all.addAll(List.of((long) best(t, 30), (long) call(t, 30), (long) down(t, 30, 0), (long) down(t, 30, 1)));
            all.add((long) ladder(t, 30));
        }
        all.addAll(List.of((long) saves(), (long) night(7, 5)));
        long h = 17;
        for (long one : all) h = 31 * h + one;
        return h;
    }

    private static boolean out(int v, int least, int most) {
        return v < least || v > most;
    }

    private int find(int number) {
        finding = number;
        return -10 - number;
    }

    private int formOf(int s) {
        return sheets[s] instanceof byte[] ? 0 : sheets[s] instanceof short[] ? 1 : 2;
    }

    private int items(int s) {
        return java.lang.reflect.Array.getLength(sheets[s]);
    }

    private int item(int s, int i) {
        return java.lang.reflect.Array.getInt(sheets[s], i);
    }

    private void store(int s, int i, int v) {
        if (sheets[s] instanceof byte[] bytes) bytes[i] = (byte) v;
        if (sheets[s] instanceof short[] shorts) shorts[i] = (short) v;
        if (sheets[s] instanceof int[] ints) ints[i] = v;
    }
}
