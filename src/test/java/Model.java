import java.math.BigInteger;
import java.util.ArrayList;
import java.util.Arrays;
import java.util.HashMap;
import java.util.HashSet;
import java.util.List;
import java.util.Map;
import java.util.Set;
import java.util.regex.Pattern;

/**
 * The document once more, word by word and slowly: TICK by TICK, all PLANS, all orders, all losses.
 * It shares no way of reckoning with the class, so that a fault of one shows against the other.
 */
final class Model {
    static final int UNKNOWN = -1, BAD = -2, LATE = -3, FULL = -4, NONE = -9;

    /** DELAYS, GAPS, m, THE PLAN. */
    static final class State {
        int m = 1;
        int[] delay = {1};
        int[] gap = {1};
        List<Integer> plan = new ArrayList<>();
        Map<Integer, Integer> teller = new HashMap<>();

        State copy() {
            State s = new State();
            s.m = m;
            s.delay = delay.clone();
            s.gap = gap.clone();
            s.plan = new ArrayList<>(plan);
            s.teller = new HashMap<>(teller);
            return s;
        }

        int n() {
            return delay.length;
        }
    }

    State now = new State();
    StringBuilder text = new StringBuilder();
    List<State> acts = new ArrayList<>();
    State[] slots = new State[2];
    List<int[]> seen = new ArrayList<>();
    long seed;

    // ---- times, TICK by TICK

    static int[][] times(State s) {
        int n = s.n();
        int[][] know = new int[n][s.m];
        for (int[] row : know) {
            Arrays.fill(row, -1);
        }
        List<List<int[]>> queue = new ArrayList<>();
        for (int p = 0; p < n; p++) {
            List<int[]> letters = new ArrayList<>();
            for (int k = 0; k < s.m; k++) {
                for (int q : s.plan) {
                    if (s.teller.get(q) == p) {
                        letters.add(new int[] {q, k});
                    }
                }
            }
            queue.add(letters);
        }
        int[] lastBegun = new int[n];
        Arrays.fill(lastBegun, -1000);
        List<int[]> underway = new ArrayList<>();
        Arrays.fill(know[0], 0);
        int missing = s.m * (n - 1);
        for (int tick = 0; missing > 0; tick++) {
            for (int[] letter : underway) {
                if (letter[2] == tick) {
                    know[letter[0]][letter[1]] = tick;
                    missing--;
                }
            }
            for (int p = 0; p < n; p++) {
                if (!queue.get(p).isEmpty()) {
                    int[] next = queue.get(p).get(0);
                    if (know[p][next[1]] >= 0 && tick - lastBegun[p] >= s.gap[p]) {
                        queue.get(p).remove(0);
                        lastBegun[p] = tick;
                        underway.add(new int[] {next[0], next[1], tick + s.delay[p]});
                    }
                }
            }
        }
        return know;
    }

    static int last(State s) {
        int most = 0;
        for (int[] row : times(s)) {
            for (int t : row) {
                most = Math.max(most, t);
            }
        }
        return most;
    }

    // ---- THE TEXT

    private static final Pattern SHAPE = Pattern.compile("T[1-3][1-8]([1-9][1-5])*(t[1-7][0-7])*");

    /** THE TELLING that a text is; null: it is none. */
    static State read(String t) {
        if (!SHAPE.matcher(t).matches()) {
            return null;
        }
        int n = t.charAt(2) - '0';
        if (t.length() != 5 * n || t.substring(0, 3 + 2 * n).indexOf('t') >= 0) {
            return null;
        }
        State s = new State();
        s.m = t.charAt(1) - '0';
        s.delay = new int[n];
        s.gap = new int[n];
        for (int p = 0; p < n; p++) {
            s.delay[p] = t.charAt(3 + 2 * p) - '0';
            s.gap[p] = t.charAt(4 + 2 * p) - '0';
        }
        for (String one : t.substring(3 + 2 * n).split("t")) {
            if (!one.isEmpty()) {
                int p = one.charAt(0) - '0';
                int q = one.charAt(1) - '0';
                if (p >= n || s.plan.contains(p) || q != 0 && !s.plan.contains(q)) {
                    return null;
                }
                s.plan.add(p);
                s.teller.put(p, q);
            }
        }
        return s;
    }

    /** Whether something could come behind a text so that it is a TELLING: one such thing is tried. */
    static boolean canBecome(String begun) {
        StringBuilder b = new StringBuilder(begun);
        String head = "T11";
        while (b.length() < 3) {
            b.append(head.charAt(b.length()));
        }
        int n = b.charAt(2) - '0';
        while (b.length() < 3 + 2 * n) {
            b.append('1');
        }
        while (b.length() < 5 * n) {
            int place = (b.length() - 3 - 2 * n) % 3;
            if (place == 0) {
                b.append('t');
            } else if (place == 1) {
                b.append(firstMissing(b.substring(3 + 2 * n)));
            } else {
                b.append('0');
            }
        }
        return read(b.toString()) != null;
    }

    private static char firstMissing(String plan) {
        Set<Character> there = new HashSet<>();
        for (int i = 1; i < plan.length(); i += 3) {
            there.add(plan.charAt(i));
        }
        char c = '1';
        while (there.contains(c)) {
            c++;
        }
        return c;
    }

    int fault() {
        for (int length = 1; length <= text.length(); length++) {
            if (!canBecome(text.substring(0, length))) {
                return length - 1;
            }
        }
        return read(text.toString()) != null ? NONE : text.length();
    }

    int write(int letter) {
        if (letter < 0 || letter > 255) {
            return BAD;
        }
        if (text.length() == 60) {
            return FULL;
        }
        text.append((char) letter);
        return text.length();
    }

    int wipe() {
        int length = text.length();
        text.setLength(0);
        return length;
    }

    int telling() {
        State s = read(text.toString());
        if (s == null) {
            return LATE;
        }
        now = s;
        acts.clear();
        slots = new State[2];
        return last(now);
    }

    // ---- the QUICK PLAN, BEST

    static void quicken(State s) {
        Map<Integer, Integer> knowAt = new HashMap<>();
        Map<Integer, Integer> sent = new HashMap<>();
        knowAt.put(0, 0);
        sent.put(0, 0);
        s.plan.clear();
        s.teller.clear();
        while (knowAt.size() < s.n()) {
            int teller = -1;
            int soonest = Integer.MAX_VALUE;
            int told = -1;
            for (int p = 0; p < s.n(); p++) {
                if (knowAt.containsKey(p)) {
                    int there = knowAt.get(p) + sent.get(p) * s.gap[p] + s.delay[p];
                    if (there < soonest) {
                        soonest = there;
                        teller = p;
                    }
                } else if (told < 0 || 100 * s.delay[p] + 10 * s.gap[p] < 100 * s.delay[told] + 10 * s.gap[told]) {
                    told = p;
                }
            }
            sent.merge(teller, 1, Integer::sum);
            knowAt.put(told, soonest);
            sent.put(told, 0);
            s.plan.add(told);
            s.teller.put(told, teller);
        }
    }

    static int best(State s) {
        State one = s.copy();
        one.m = 1;
        one.plan.clear();
        one.teller.clear();
        return bestFrom(one);
    }

    private static int bestFrom(State s) {
        if (s.plan.size() == s.n() - 1) {
            return last(s);
        }
        int least = Integer.MAX_VALUE;
        for (int p = 1; p < s.n(); p++) {
            if (s.plan.contains(p)) {
                continue;
            }
            for (int q = 0; q < s.n(); q++) {
                if (q == 0 || s.plan.contains(q)) {
                    s.plan.add(p);
                    s.teller.put(p, q);
                    least = Math.min(least, bestFrom(s));
                    s.plan.remove(s.plan.size() - 1);
                    s.teller.remove(p);
                }
            }
        }
        return least;
    }

    // ---- asked of THE TELLING

    boolean is(int p) {
        return p >= 0 && p < now.n();
    }

    int about(int what) {
        switch (what) {
            case 0: return now.n();
            case 1: return now.m;
            case 2: return last(now);
            case 3: {
                State s = now.copy();
                quicken(s);
                return last(s);
            }
            case 4: return now.n() > 6 ? LATE : best(now);
            case 5: return now.m * now.plan.size();
            case 6: return acts.size();
            case 7: return seen.size();
            case 8: return text.length();
            default: return BAD;
        }
    }

    int person(int p, int what) {
        if (!is(p)) {
            return UNKNOWN;
        }
        switch (what) {
            case 0: return now.delay[p];
            case 1: return now.gap[p];
            case 2: return p == 0 ? NONE : now.teller.get(p);
            case 3: return p == 0 ? NONE : now.plan.indexOf(p);
            case 4: return told(now, p);
            case 5: return slack(p);
            case 6: return p == 0 ? NONE : last(now) - times(now)[p][now.m - 1];
            default: return BAD;
        }
    }

    private static int told(State s, int p) {
        int count = 0;
        for (int teller : s.teller.values()) {
            count += teller == p ? 1 : 0;
        }
        return count;
    }

    private int slack(int p) {
        for (int more = 30; more > 0; more--) {
            State s = now.copy();
            s.delay[p] += more;
            if (last(s) <= last(now)) {
                return more;
            }
        }
        return 0;
    }

    int plan(int place) {
        return place < 0 || place >= now.plan.size() ? UNKNOWN : now.plan.get(place);
    }

    int knows(int p, int k) {
        return !is(p) || k < 0 || k >= now.m ? UNKNOWN : times(now)[p][k];
    }

    int last(int k) {
        if (k < 0 || k >= now.m) {
            return UNKNOWN;
        }
        int most = 0;
        for (int[] row : times(now)) {
            most = Math.max(most, row[k]);
        }
        return most;
    }

    // ---- acts

    private static boolean tells(State s, int p, int q) {
        for (int at = q; at != 0; at = s.teller.get(at)) {
            if (at == p) {
                return true;
            }
        }
        return p == 0;
    }

    /** 0: done. */
    private static int moved(State s, int p, int q) {
        if (p <= 0 || p >= s.n() || q < 0 || q >= s.n()) {
            return UNKNOWN;
        }
        if (s.teller.get(p) == q || tells(s, p, q)) {
            return LATE;
        }
        List<Integer> ahead = new ArrayList<>();
        List<Integer> behind = new ArrayList<>();
        for (int one : s.plan) {
            (tells(s, p, one) ? behind : ahead).add(one);
        }
        ahead.addAll(behind);
        s.plan = ahead;
        s.teller.put(p, q);
        return 0;
    }

    private static int changed(State s, int i) {
        if (i < 0 || i >= s.plan.size() - 1) {
            return UNKNOWN;
        }
        if (s.teller.get(s.plan.get(i + 1)).equals(s.plan.get(i))) {
            return LATE;
        }
        s.plan.add(i, s.plan.remove(i + 1));
        return 0;
    }

    private void act(State before) {
        acts.add(before);
        if (acts.size() > 14) {
            acts.remove(0);
        }
    }

    int move(int p, int q) {
        State before = now.copy();
        int refused = moved(now, p, q);
        if (refused != 0) {
            return refused;
        }
        act(before);
        return last(now);
    }

    int change(int i) {
        State before = now.copy();
        int refused = changed(now, i);
        if (refused != 0) {
            return refused;
        }
        act(before);
        return last(now);
    }

    int quicken() {
        act(now.copy());
        quicken(now);
        return last(now);
    }

    int set(int p, int what, int v) {
        if (!is(p)) {
            return UNKNOWN;
        }
        if (what < 0 || what > 2 || what == 2 && p != 0 || v < 1 || v > new int[] {9, 5, 3}[what]) {
            return BAD;
        }
        act(now.copy());
        int was;
        if (what == 0) {
            was = now.delay[p];
            now.delay[p] = v;
        } else if (what == 1) {
            was = now.gap[p];
            now.gap[p] = v;
        } else {
            was = now.m;
            now.m = v;
        }
        return was;
    }

    int undo() {
        if (acts.isEmpty()) {
            return LATE;
        }
        now = acts.remove(acts.size() - 1);
        return acts.size();
    }

    // ---- asked

    private static long numbers(int d, int g, int t, Map<Integer, Long> known) {
        if (t < d) {
            return 1;
        }
        Long there = known.get(t);
        if (there != null) {
            return there;
        }
        long sum = 1;
        for (int k = 0; t - d - k * g >= 0; k++) {
            sum += numbers(d, g, t - d - k * g, known);
        }
        known.put(t, sum);
        return sum;
    }

    long number(int p, int t) {
        if (!is(p)) {
            return UNKNOWN;
        }
        return t < 0 || t > 60 ? BAD : numbers(now.delay[p], now.gap[p], t, new HashMap<>());
    }

    int soon(int p, int v) {
        if (!is(p)) {
            return UNKNOWN;
        }
        if (v < 1 || v > 99999) {
            return BAD;
        }
        for (int t = 0; t <= 60; t++) {
            if (number(p, t) >= v) {
                return t;
            }
        }
        return NONE;
    }

    int knowers(int k, int t) {
        if (k < 0 || k >= now.m) {
            return UNKNOWN;
        }
        if (t < 0 || t > 999) {
            return BAD;
        }
        int bits = 0;
        for (int p = 0; p < now.n(); p++) {
            bits += times(now)[p][k] <= t ? 1 << p : 0;
        }
        return bits;
    }

    int judge(int n, long row) {
        if (n < 1 || n > 4 || row < 0 || Long.toString(row).length() > 3 * n) {
            return BAD;
        }
        String figures = String.format("%0" + 3 * n + "d", row);
        State s = now.copy();
        for (int i = 0; i < n; i++) {
            int a = figures.charAt(3 * i) - '0';
            int b = figures.charAt(3 * i + 1) - '0';
            int c = figures.charAt(3 * i + 2) - '0';
            if (!so(s, a, b, c)) {
                return i;
            }
        }
        return NONE;
    }

    private static boolean so(State s, int a, int b, int c) {
        if (a == 1) {
            return moved(s, b, c) == 0;
        }
        if (a == 2) {
            return b == 0 && changed(s, c) == 0;
        }
        if (a == 3 && b == 0 && c == 0) {
            quicken(s);
            return true;
        }
        if (a == 5) {
            return last(s) == 10 * b + c;
        }
        if (b >= s.n()) {
            return false;
        }
        if (a == 4 && c > 0) {
            s.delay[b] = c;
            return true;
        }
        return a == 6 && times(s)[b][0] <= c || a == 7 && told(s, b) == c;
    }

    // ---- seen

    int see(int p, int t) {
        if (!is(p)) {
            return UNKNOWN;
        }
        if (t < 0 || t > 99) {
            return BAD;
        }
        if (seen.size() == 6) {
            return FULL;
        }
        seen.add(new int[] {p, t});
        return seen.size();
    }

    int unsee() {
        int size = seen.size();
        seen.clear();
        return size;
    }

    int which(int p) {
        if (!is(p)) {
            return UNKNOWN;
        }
        int bits = 0;
        for (int d = 1; d <= 9; d++) {
            State s = now.copy();
            s.delay[p] = d;
            int[][] know = times(s);
            boolean so = true;
            for (int[] one : seen) {
                so &= one[0] >= s.n() || know[one[0]][0] == one[1];
            }
            bits += so ? 1 << d : 0;
        }
        return bits;
    }

    // ---- shares, chances

    private static int part(BigInteger above, BigInteger below, boolean upper) {
        BigInteger common = above.gcd(below);
        return (upper ? above : below).divide(common).intValueExact();
    }

    int share(int p, boolean upper) {
        if (!is(p)) {
            return UNKNOWN;
        }
        int n = now.n();
        int[] lasts = new int[1 << n];
        for (int come = 0; come < 1 << n; come++) {
            State s = now.copy();
            for (int q = 0; q < n; q++) {
                s.delay[q] = (come >> q & 1) == 1 ? now.delay[q] : 1;
            }
            lasts[come] = last(s);
        }
        long[] sumAndOrders = new long[2];
        orders(n, 0, p, lasts, 0, sumAndOrders);
        return part(BigInteger.valueOf(sumAndOrders[0]), BigInteger.valueOf(sumAndOrders[1]), upper);
    }

    private static void orders(int n, int come, int p, int[] lasts, int gained, long[] sumAndOrders) {
        if (come == (1 << n) - 1) {
            sumAndOrders[0] += gained;
            sumAndOrders[1]++;
            return;
        }
        for (int q = 0; q < n; q++) {
            if ((come >> q & 1) == 0) {
                int then = come | 1 << q;
                orders(n, then, p, lasts, q == p ? lasts[then] - lasts[come] : gained, sumAndOrders);
            }
        }
    }

    int chance(int v, int x, boolean upper) {
        if (v < 0 || v > 8 || x < 0 || x > 10) {
            return BAD;
        }
        int n = now.n();
        BigInteger sum = BigInteger.ZERO;
        for (int lost = 0; lost < 1 << n; lost += 2) {
            BigInteger weight = BigInteger.ONE;
            int know = 1;
            for (int p = 1; p < n; p++) {
                weight = weight.multiply(BigInteger.valueOf((lost >> p & 1) == 1 ? x : 10 - x));
                boolean told = true;
                for (int at = p; at != 0; at = now.teller.get(at)) {
                    told &= (lost >> at & 1) == 0;
                }
                know += told ? 1 : 0;
            }
            sum = know >= v ? sum.add(weight) : sum;
        }
        return part(sum, BigInteger.TEN.pow(n - 1), upper);
    }

    long seed(long v) {
        long was = seed;
        seed = v;
        return was;
    }

    int drawn(int m) {
        if (m < 1 || m > 40) {
            return BAD;
        }
        int sum = 0;
        for (int i = 0; i < m; i++) {
            seed = BigInteger.valueOf(seed).multiply(BigInteger.valueOf(6364136223846793005L))
                .add(BigInteger.valueOf(1442695040888963407L)).longValue();
            long v = (seed >> 33) & 0x7fffffffL;
            State s = now.copy();
            for (int p = 0; p < s.n(); p++) {
                s.delay[p] = 1 + (int) (v / (long) Math.pow(9, p) % 9);
            }
            sum += last(s);
        }
        return sum;
    }

    // ---- slots

    int keep(int slot) {
        if (slot < 0 || slot > 1) {
            return UNKNOWN;
        }
        slots[slot] = now.copy();
        return last(now);
    }

    int again(int slot) {
        if (slot < 0 || slot > 1) {
            return UNKNOWN;
        }
        if (slots[slot] == null) {
            return LATE;
        }
        now = slots[slot].copy();
        acts.clear();
        return last(now);
    }
}
