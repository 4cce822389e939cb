import java.util.ArrayDeque;
import java.util.ArrayList;
import java.util.Arrays;
import java.util.List;
import java.util.regex.Matcher;
import java.util.regex.Pattern;

/**
 * The document's words written down a second time, by other ways than the program's: rows of
 * equations by determinants, CLEAN by what is got of single symbols, WHICH by sending, PERIOD by
 * looking at all r. It is slow, and may use the Java library.
 */
final class Model {
    static final int BAD = -1, STATE = -2, FULL = -3, NONE = -9;
    private static final int[][] MARKS = {{1, 1, 1, 1}, {1, -1, 1, -1}, {1, 1, -1, -1}, {1, -1, -1, 1}};

    private static final class Doing {
        boolean[] on = new boolean[4];
        int[][] ear = {{1, 0, 0, 0}, {0, 1, 0, 0}, {0, 0, 1, 0}, {0, 0, 0, 1}};
        int[][] learnt = {{1, 0, 0, 0}, {0, 1, 0, 0}, {0, 0, 1, 0}, {0, 0, 0, 1}};
        int[][] struck = new int[4][4];
        int[][] power = new int[4][3];

        Doing copy() {
            Doing d = new Doing();
            d.on = on.clone();
            d.ear = deep(ear);
            d.learnt = deep(learnt);
            d.struck = deep(struck);
            d.power = deep(power);
            return d;
        }
    }

    private StringBuilder text = new StringBuilder();
    private Doing now = new Doing();
    private int[][] noise = new int[4][3];
    private int[][] leak = new int[4][4];
    private int[] budget = {4, 4, 4, 4};
    private int mask = 12;
    private final ArrayDeque<Doing> past = new ArrayDeque<>();
    private final Doing[] images = new Doing[2];
    private final List<int[]> tried = new ArrayList<>();

    static int[][] deep(int[][] rows) {
        int[][] copy = new int[rows.length][];
        for (int k = 0; k < rows.length; k++) {
            copy[k] = rows[k].clone();
        }
        return copy;
    }

    private static int mod(long v) {
        return (int) Math.floorMod(v, 31L);
    }

    private static int by(long a, int b) {
        for (int q = 0; q < 31; q++) {
            if (mod((long) q * b - a) == 0) {
                return q;
            }
        }
        throw new IllegalStateException("by 0");
    }

    private static boolean in(int v, int least, int most) {
        return v >= least && v <= most;
    }

    private List<Integer> lines(boolean[] on) {
        List<Integer> all = new ArrayList<>();
        for (int j = 0; j < 4; j++) {
            if (on[j]) {
                all.add(j);
            }
        }
        return all;
    }

    private int onCount() {
        return lines(now.on).size();
    }

    private void remember() {
        past.addLast(now.copy());
        if (past.size() > 6) {
            past.removeFirst();
        }
    }

    int type(int letter) {
        if (!in(letter, 0, 255)) return BAD;
        if (text.length() == 160) return FULL;
        text.append((char) letter);
        return text.length();
    }

    int clear() {
        int had = text.length();
        text = new StringBuilder();
        return had;
    }

    /** All TOKENS first (any letter that is none stands for itself), then the grammar over them. */
    int tells() {
        List<String> tokens = new ArrayList<>();
        List<Integer> places = new ArrayList<>();
        Matcher m = Pattern.compile("[0-9]+|[^ ]", Pattern.DOTALL).matcher(text);
        while (m.find()) {
            tokens.add(m.group());
            places.add(m.start());
        }
        tokens.add("");
        places.add(text.length());
        Model fresh = new Model();
        int items = 0;
        int k = 0;
        while (!tokens.get(k).isEmpty()) {
            String kind = tokens.get(k);
            int numbers = kind.length() != 1 ? -1 : "eng".contains(kind) ? 3 : kind.equals("b") ? 2 : kind.equals("m") ? 1 : -1;
            if (numbers < 0) return -10 - places.get(k);
            int[] v = new int[numbers];
            for (int n = 0; n < numbers; n++) {
                k++;
                if (!tokens.get(k).matches("0|[1-9][0-9]?")) return -10 - places.get(k);
                v[n] = Integer.parseInt(tokens.get(k));
                if (!mayBe(kind.charAt(0), v, n)) return -10 - places.get(k);
            }
            k++;
            if (!tokens.get(k).equals(";")) return -10 - places.get(k);
            k++;
            items++;
            fresh.set(kind.charAt(0), v);
        }
        now = fresh.now;
        noise = fresh.noise;
        leak = fresh.leak;
        budget = fresh.budget;
        mask = fresh.mask;
        past.clear();
        tried.clear();
        images[0] = null;
        images[1] = null;
        clear();
        return items;
    }

    private static boolean mayBe(char kind, int[] v, int n) {
        switch (kind) {
            case 'e': return n < 2 ? v[n] < 4 : v[n] < 31 && (v[0] != v[1] || v[n] > 0);
            case 'n': return v[n] < (n == 0 ? 4 : n == 1 ? 3 : 21);
            case 'g': return n == 0 ? v[n] < 4 : n == 1 ? v[n] < 4 && v[n] != v[0] : v[n] < 10;
            case 'b': return v[n] < (n == 0 ? 4 : 13);
            default: return v[n] > 0 && v[n] < 13;
        }
    }

    private void set(char kind, int[] v) {
        switch (kind) {
            case 'e': now.ear[v[0]][v[1]] = v[2]; break;
            case 'n': noise[v[0]][v[1]] = v[2]; break;
            case 'g': leak[v[0]][v[1]] = v[2]; break;
            case 'b': budget[v[0]] = v[1]; break;
            default: mask = v[0]; break;
        }
    }

    int joins(int line) {
        if (!in(line, 0, 3)) return BAD;
        if (now.on[line]) return STATE;
        remember();
        now.on[line] = true;
        return onCount();
    }

    int leaves(int line) {
        if (!in(line, 0, 3)) return BAD;
        if (!now.on[line]) return STATE;
        remember();
        now.on[line] = false;
        now.power[line] = new int[3];
        return onCount();
    }

    int drifts(int j, int i, int v) {
        if (!in(j, 0, 3) || !in(i, 0, 3) || !in(v, j == i ? 1 : 0, 30)) return BAD;
        int was = now.ear[j][i];
        if (was == v) return STATE;
        remember();
        now.ear[j][i] = v;
        return was;
    }

    int strikes(int j, int beat, int e) {
        if (!in(j, 0, 3) || !in(beat, 0, 3) || !in(e, 1, 30)) return BAD;
        remember();
        now.struck[j][beat] = mod(now.struck[j][beat] + e);
        return now.struck[j][beat];
    }

    int trains() {
        if (onCount() == 0) return STATE;
        remember();
        int[][] before = deep(now.learnt);
        for (int j : lines(now.on)) {
            for (int i : lines(now.on)) {
                long sum = 0;
                for (int beat = 0; beat < 4; beat++) {
                    long got = now.struck[j][beat];
                    for (int k : lines(now.on)) {
                        got += now.ear[j][k] * MARKS[k][beat];
                    }
                    sum += got * MARKS[i][beat];
                }
                now.learnt[j][i] = by(sum, 4);
            }
        }
        now.struck = new int[4][4];
        int others = 0;
        for (int at = 0; at < 16; at++) {
            others += before[at / 4][at % 4] != now.learnt[at / 4][at % 4] ? 1 : 0;
        }
        return others;
    }

    private int level(int[][] power, int j, int t) {
        int sum = noise[j][t] + power[j][t];
        for (int i : lines(now.on)) {
            sum += i == j ? 0 : leak[j][i] * power[i][t];
        }
        return sum;
    }

    private int[][] after(int[][] before) {
        int[][] power = deep(before);
        for (int j : lines(now.on)) {
            Arrays.fill(power[j], 0);
            for (int unit = 0; unit < budget[j]; unit++) {
                int best = -1;
                for (int t = 2; t >= 0; t--) {
                    boolean free = power[j][t] < mask;
                    if (free && (best < 0 || level(power, j, t) <= level(power, j, best))) {
                        best = t;
                    }
                }
                if (best >= 0) {
                    power[j][best]++;
                }
            }
        }
        return power;
    }

    private boolean steady() {
        return Arrays.deepEquals(now.power, after(now.power));
    }

    int fills(int n) {
        if (!in(n, 1, 20)) return BAD;
        if (onCount() == 0) return STATE;
        remember();
        for (int k = 0; k < n; k++) {
            now.power = after(now.power);
        }
        return steady() ? 1 : 0;
    }

    int undo() {
        if (past.isEmpty()) return STATE;
        now = past.removeLast();
        return past.size();
    }

    int pair(int j, int i, int what) {
        if (!in(j, 0, 3) || !in(i, 0, 3) || !in(what, 0, 2)) return BAD;
        return what == 0 ? now.ear[j][i] : what == 1 ? now.learnt[j][i] : leak[j][i];
    }

    int line(int j, int what) {
        if (!in(j, 0, 3) || !in(what, 0, 3)) return BAD;
        if (what == 0) return now.on[j] ? 1 : 0;
        if (what == 1) return budget[j];
        int sum = 0;
        for (int t = 0; t < 3; t++) {
            sum += what == 2 ? now.power[j][t] : level(now.power, j, t);
        }
        return sum;
    }

    int tone(int j, int t, int what) {
        if (!in(j, 0, 3) || !in(t, 0, 2) || !in(what, 0, 2)) return BAD;
        return what == 0 ? noise[j][t] : what == 1 ? now.power[j][t] : level(now.power, j, t);
    }

    private static int determinant(int[][] a) {
        if (a.length == 0) return 1;
        long sum = 0;
        for (int c = 0; c < a.length; c++) {
            int[][] minor = new int[a.length - 1][a.length - 1];
            for (int r = 1; r < a.length; r++) {
                for (int k = 0; k < a.length; k++) {
                    if (k != c) {
                        minor[r - 1][k < c ? k : k - 1] = a[r][k];
                    }
                }
            }
            sum += (c % 2 == 0 ? 1 : -1) * (long) a[0][c] * determinant(minor);
        }
        return mod(sum);
    }

    /** x of each LINE, or null. */
    private int[] makes(boolean[] on, int[] s) {
        List<Integer> all = lines(on);
        int n = all.size();
        int[][] a = new int[n][n];
        for (int r = 0; r < n; r++) {
            if (now.learnt[all.get(r)][all.get(r)] == 0) return null;
            for (int c = 0; c < n; c++) {
                a[r][c] = now.learnt[all.get(r)][all.get(c)];
            }
        }
        int whole = determinant(a);
        if (whole == 0) return null;
        int[] x = new int[4];
        for (int c = 0; c < n; c++) {
            int[][] b = deep(a);
            for (int r = 0; r < n; r++) {
                b[r][c] = mod(a[r][r] * s[all.get(r)]);
            }
            x[all.get(c)] = by(determinant(b), whole);
        }
        return x;
    }

    private int got(boolean[] on, int[] x, int j) {
        long sum = 0;
        for (int i : lines(on)) {
            sum += now.ear[j][i] * x[i];
        }
        return by(sum, now.learnt[j][j]);
    }

    int send(int a, int b, int c, int d, int i, int what) {
        int[] s = {a, b, c, d};
        for (int j = 0; j < 4; j++) {
            if (!in(s[j], 0, now.on[j] ? 30 : 0)) return BAD;
        }
        if (!in(i, 0, 3) || !now.on[i] || !in(what, 0, 1)) return BAD;
        int[] x = makes(now.on, s);
        return x == null ? NONE : what == 0 ? x[i] : got(now.on, x, i);
    }

    int maker(int i, int j) {
        if (!in(i, 0, 3) || !now.on[i] || !in(j, 0, 3) || !now.on[j]) return BAD;
        int[] s = new int[4];
        s[j] = 1;
        int[] x = makes(now.on, s);
        return x == null ? NONE : x[i];
    }

    private int cleanOf(boolean[] on) {
        int bits = 0;
        for (int j : lines(on)) {
            boolean clean = true;
            for (int k : lines(on)) {
                int[] s = new int[4];
                s[k] = 1;
                int[] x = makes(on, s);
                clean &= x != null && got(on, x, j) == s[j];
            }
            bits |= clean ? 1 << j : 0;
        }
        return bits;
    }

    int clean() {
        return cleanOf(now.on);
    }

    int hurt(int line) {
        if (!in(line, 0, 3)) return BAD;
        if (now.on[line]) return STATE;
        boolean[] besides = now.on.clone();
        besides[line] = true;
        int then = cleanOf(besides);
        int bits = 0;
        for (int j = 0; j < 4; j++) {
            bits |= (clean() >> j & 1) == 1 && (then >> j & 1) == 0 ? 1 << j : 0;
        }
        return bits;
    }

    int settled(int what) {
        if (!in(what, 0, 1)) return BAD;
        List<int[][]> trail = new ArrayList<>();
        trail.add(now.power);
        for (int r = 0; r < 121; r++) {
            trail.add(after(trail.get(r)));
        }
        for (int r = 0; r <= 60; r++) {
            if (Arrays.deepEquals(trail.get(r), trail.get(r + 1))) return what == 0 ? r : NONE;
        }
        for (int p = 1; p <= 60 && what == 1; p++) {
            for (int r = 0; r <= 60; r++) {
                if (Arrays.deepEquals(trail.get(r), trail.get(r + p))) return p;
            }
        }
        return NONE;
    }

    int tries(int j, int set, int well) {
        if (!in(j, 0, 3) || !in(set, 0, 15) || !in(well, 0, 1)) return BAD;
        if (tried.size() == 8) return FULL;
        tried.add(new int[] {j, set, well});
        return tried.size();
    }

    int forget() {
        int was = tried.size();
        tried.clear();
        return was;
    }

    /** Whether a try would come out WELL, were the EAR of j for i one more than LEARNT. */
    private boolean wouldBeWell(int j, int i, int triedLine, int set) {
        long asLearnt = 0;
        long asItIs = 0;
        for (int k : lines(now.on)) {
            int symbol = set >> k & 1;
            int learnt = now.learnt[triedLine][k];
            asLearnt += learnt * symbol;
            asItIs += mod(learnt + (triedLine == j && k == i ? 1 : 0)) * symbol;
        }
        return mod(asLearnt) == mod(asItIs);
    }

    private List<Integer> suspects() {
        List<Integer> all = new ArrayList<>();
        for (int j : lines(now.on)) {
            for (int i : lines(now.on)) {
                boolean so = true;
                for (int[] t : tried) {
                    so &= wouldBeWell(j, i, t[0], t[1]) == (t[2] == 1);
                }
                if (so) {
                    all.add(4 * j + i);
                }
            }
        }
        return all;
    }

    int which(int what) {
        if (!in(what, 0, 1)) return BAD;
        List<Integer> all = suspects();
        return what == 0 ? all.size() : all.isEmpty() ? NONE : all.get(0);
    }

    int ask() {
        List<Integer> all = suspects();
        if (all.size() <= 1) return NONE;
        int best = NONE;
        int bestGreater = Integer.MAX_VALUE;
        for (int j : lines(now.on)) {
            for (int set = 0; set < 16; set++) {
                boolean allOn = true;
                for (int i = 0; i < 4; i++) {
                    allOn &= (set >> i & 1) == 0 || now.on[i];
                }
                int well = 0;
                for (int ear : all) {
                    well += wouldBeWell(ear / 4, ear % 4, j, set) ? 1 : 0;
                }
                int greater = Math.max(well, all.size() - well);
                if (allOn && greater < bestGreater) {
                    bestGreater = greater;
                    best = 16 * j + set;
                }
            }
        }
        return best;
    }

    int keep(int image) {
        if (!in(image, 0, 1)) return BAD;
        images[image] = now.copy();
        return onCount();
    }

    int back(int image) {
        if (!in(image, 0, 1)) return BAD;
        if (images[image] == null) return STATE;
        now = images[image].copy();
        past.clear();
        return onCount();
    }

    int count(int what) {
        switch (what) {
            case 0: return lines(now.on).stream().mapToInt(j -> 1 << j).sum();
            case 1: {
                int others = 0;
                for (int j : lines(now.on)) {
                    for (int i : lines(now.on)) {
                        others += now.ear[j][i] != now.learnt[j][i] ? 1 : 0;
                    }
                }
                return others;
            }
            case 2: return mask;
            case 3: return Arrays.stream(now.power).flatMapToInt(Arrays::stream).sum();
            case 4: return steady() ? 1 : 0;
            case 5: return tried.size();
            case 6: return text.length();
            case 7: return past.size();
            default: return BAD;
        }
    }
}
