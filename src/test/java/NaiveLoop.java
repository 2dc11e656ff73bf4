import java.util.ArrayDeque;
import java.util.ArrayList;
import java.util.Arrays;
import java.util.Deque;
import java.util.LinkedHashMap;
import java.util.LinkedHashSet;
import java.util.List;
import java.util.Map;
import java.util.Set;
import java.util.regex.Matcher;
import java.util.regex.Pattern;

/**
 * The document again, in the most literal form: every tick that was ever made is kept, and each
 * measure is summed up anew when it is asked for. NaiveLoopTest compares the class with it.
 */
final class NaiveLoop {
    static final int INVALID = -2000000001;
    static final int NOT_POSSIBLE = -2000000002;
    static final int CAPACITY = -2000000003;
    static final int NOT_FOUND = -2000000004;

    static final String[] NAMES = {"kp", "ki", "gain", "lag", "dead", "mgain", "mlag", "mdead",
        "filter", "umin", "umax", "rate", "limit", "patience", "noise"};
    static final int[][] RANGES = {{0, 20000, 1000}, {0, 20000, 100}, {-5000, 5000, 1000},
        {0, 999, 800}, {0, 300, 50}, {-5000, 5000, 1000}, {0, 999, 800}, {0, 300, 50},
        {0, 999, 0}, {-100000, 0, -50000}, {0, 100000, 50000}, {1, 200000, 200000},
        {0, 100000, 5000}, {1, 50, 5}, {0, 1000, 0}};
    static final Pattern ASSIGNMENT = Pattern.compile("([a-z]+)=(-?[0-9]{1,7});");

    private static final class State {
        int setpoint;
        int load;
        int seed;
        long x;
        long y;
        long f;
        long i;
        int mode;
        int bad;
        int good;
        List<long[]> ticks = new ArrayList<>();
        int sectionStart;
        int setpointBefore;
        Map<Integer, Integer> watchedSince = new LinkedHashMap<>();

        State copy() {
            State c = new State();
            c.setpoint = setpoint;
            c.load = load;
            c.seed = seed;
            c.x = x;
            c.y = y;
            c.f = f;
            c.i = i;
            c.mode = mode;
            c.bad = bad;
            c.good = good;
            c.ticks = new ArrayList<>(ticks);
            c.sectionStart = sectionStart;
            c.setpointBefore = setpointBefore;
            c.watchedSince = new LinkedHashMap<>(watchedSince);
            return c;
        }

        long past(int signal, int tick) {
            return tick < 0 ? 0 : ticks.get(tick)[signal];
        }

        long latest(int signal) {
            return past(signal, ticks.size() - 1);
        }

        long present(int signal) {
            switch (signal) {
                case 0: return setpoint;
                case 3: return x;
                case 8: return y;
                case 9: return mode;
                default: return latest(signal);
            }
        }
    }

    private int[] par = new int[15];
    private final Deque<int[]> before = new ArrayDeque<>();
    private String text = "";
    private State s = new State();
    private final Deque<State> stored = new ArrayDeque<>();

    NaiveLoop() {
        for (int p = 0; p < 15; p++) {
            par[p] = RANGES[p][2];
        }
    }

    private static boolean in(long v, long a, long b) {
        return a <= v && v <= b;
    }

    private static long floor(long a, long b) {
        long q = a / b;
        return q * b > a ? q - 1 : q;
    }

    private static long towards(long from, long goal, long weight) {
        return from + floor(weight * (goal - from), 1000);
    }

    /** present is s(t) at the tick t that is being made, for which there is no record yet. */
    private static long delayed(State st, int signal, long present, int d) {
        int t = st.ticks.size();
        int j = d / 10;
        int k = d % 10;
        long a = j == 0 ? present : st.past(signal, t - j);
        return floor(a * (10 - k) + st.past(signal, t - j - 1) * k, 10);
    }

    private static void tick(State st, int[] par, boolean ideal) {
        int t = st.ticks.size();
        long x1 = 7919L * t + 6151L * st.seed + 1;
        long m = st.y + ((x1 * x1) % 65521) % (2 * par[14] + 1) - par[14];
        long p = delayed(st, 3, st.x, par[7]);
        long mismatch = m - p;
        st.f = towards(st.f, mismatch, 1000 - par[8]);
        if (Math.abs(mismatch) > par[12]) {
            st.bad++;
            st.good = 0;
        } else {
            st.good++;
            st.bad = 0;
        }
        if (st.mode == 0) {
            if (st.bad >= par[13]) {
                st.mode = 1;
                st.bad = 0;
                st.good = 0;
            }
        } else if (st.good >= 2 * par[13]) {
            st.mode = 0;
            st.bad = 0;
            st.good = 0;
        }
        boolean model = st.mode == 0 && !ideal;
        long kp = st.mode == 0 || ideal ? par[0] : par[0] / 2;
        long ki = st.mode == 0 || ideal ? par[1] : par[1] / 4;
        long e = st.setpoint - (model ? st.x + st.f : m);
        long bigP = floor(kp * e, 1000);
        long bigJ = st.i + floor(ki * e, 1000);
        long wanted = bigP + bigJ;
        long u = wanted;
        if (u < par[9]) {
            u = par[9];
        }
        if (u > par[10]) {
            u = par[10];
        }
        long previous = st.latest(2);
        if (u < previous - par[11]) {
            u = previous - par[11];
        }
        if (u > previous + par[11]) {
            u = previous + par[11];
        }
        boolean stays = u < wanted && e > 0 || u > wanted && e < 0;
        st.i = stays ? st.i : bigJ;
        long v = delayed(st, 2, u, par[4]);
        st.ticks.add(new long[] {st.setpoint, m, u, st.x, p, st.f, e, st.i, st.y, st.mode});
        st.y = towards(st.y, floor(par[2] * (v + st.load), 1000), 1000 - par[3]);
        st.x = towards(st.x, floor(par[5] * u, 1000), 1000 - par[6]);
    }

    private void change() {
        before.addLast(par.clone());
        if (before.size() > 6) {
            before.removeFirst();
        }
    }

    int setParameter(int p, int value) {
        if (!in(p, 0, 14) || !in(value, RANGES[p][0], RANGES[p][1])) {
            return INVALID;
        }
        change();
        int previous = par[p];
        par[p] = value;
        return previous;
    }

    int parameter(int p) {
        return in(p, 0, 14) ? par[p] : INVALID;
    }

    int nameAt(int p, int index) {
        if (!in(p, 0, 14) || index < 0) {
            return INVALID;
        }
        return index < NAMES[p].length() ? NAMES[p].charAt(index) : NOT_FOUND;
    }

    int undo() {
        if (before.isEmpty()) {
            return NOT_POSSIBLE;
        }
        par = before.removeLast();
        return before.size();
    }

    int setSetpoint(int value) {
        if (!in(value, -100000, 100000)) {
            return INVALID;
        }
        s.setpointBefore = s.setpoint;
        s.setpoint = value;
        s.sectionStart = s.ticks.size();
        return s.setpointBefore;
    }

    int setLoad(int value) {
        if (!in(value, -100000, 100000)) {
            return INVALID;
        }
        int previous = s.load;
        s.load = value;
        return previous;
    }

    int setSeed(int seed) {
        if (!in(seed, 0, 9999)) {
            return INVALID;
        }
        int previous = s.seed;
        s.seed = seed;
        return previous;
    }

    int type(int c) {
        if (!in(c, 32, 126)) {
            return INVALID;
        }
        if (text.length() == 80) {
            return CAPACITY;
        }
        text = text + (char) c;
        return text.length();
    }

    int clearText() {
        int length = text.length();
        text = "";
        return length;
    }

    int fault() {
        int at = assignments(new ArrayList<>());
        return at < 0 ? NOT_FOUND : at;
    }

    private int assignments(List<int[]> list) {
        int at = 0;
        while (at < text.length()) {
            Matcher matcher = ASSIGNMENT.matcher(text).region(at, text.length());
            if (!matcher.lookingAt()) {
                return at;
            }
            int p = Arrays.asList(NAMES).indexOf(matcher.group(1));
            int value = Integer.parseInt(matcher.group(2));
            if (p < 0 || !in(value, RANGES[p][0], RANGES[p][1])) {
                return at;
            }
            list.add(new int[] {p, value});
            at = matcher.end();
        }
        return -1;
    }

    int apply() {
        List<int[]> list = new ArrayList<>();
        if (assignments(list) >= 0 || list.isEmpty()) {
            return NOT_POSSIBLE;
        }
        change();
        for (int[] one : list) {
            par[one[0]] = one[1];
        }
        return list.size();
    }

    private List<Integer> differentOnes(List<int[]> list) {
        Set<Integer> set = new LinkedHashSet<>();
        for (int[] one : list) {
            set.add(one[0]);
        }
        return new ArrayList<>(set);
    }

    int assigned() {
        List<int[]> list = new ArrayList<>();
        return assignments(list) >= 0 ? NOT_POSSIBLE : differentOnes(list).size();
    }

    int assignedAt(int index) {
        if (index < 0) {
            return INVALID;
        }
        List<int[]> list = new ArrayList<>();
        if (assignments(list) >= 0) {
            return NOT_POSSIBLE;
        }
        List<Integer> ones = differentOnes(list);
        return index < ones.size() ? ones.get(index) : NOT_FOUND;
    }

    int run(int ticks) {
        if (!in(ticks, 1, 500)) {
            return INVALID;
        }
        if (s.ticks.size() + ticks > 100000) {
            return CAPACITY;
        }
        for (int n = 0; n < ticks; n++) {
            tick(s, par, false);
        }
        return s.ticks.size();
    }

    int time() {
        return s.ticks.size();
    }

    int value(int signal) {
        return in(signal, 0, 9) ? (int) s.present(signal) : INVALID;
    }

    int recorded(int signal, int ago) {
        if (!in(signal, 0, 9) || !in(ago, 0, 63)) {
            return INVALID;
        }
        int t = s.ticks.size() - 1 - ago;
        return t < 0 ? NOT_FOUND : (int) s.past(signal, t);
    }

    int restart() {
        int previous = s.ticks.size();
        s = new State();
        stored.clear();
        return previous;
    }

    int watch(int signal) {
        if (!in(signal, 0, 9)) {
            return INVALID;
        }
        if (!s.watchedSince.containsKey(signal) && s.watchedSince.size() == 4) {
            return CAPACITY;
        }
        s.watchedSince.put(signal, s.ticks.size());
        return s.watchedSince.size();
    }

    int unwatch(int signal) {
        if (!in(signal, 0, 9)) {
            return INVALID;
        }
        if (s.watchedSince.remove(signal) == null) {
            return NOT_FOUND;
        }
        return s.watchedSince.size();
    }

    int watchedAt(int index) {
        if (index < 0) {
            return INVALID;
        }
        List<Integer> list = new ArrayList<>(s.watchedSince.keySet());
        return index < list.size() ? list.get(index) : NOT_FOUND;
    }

    int extreme(int signal, int what) {
        if (!in(signal, 0, 9) || !in(what, 0, 2)) {
            return INVALID;
        }
        Integer since = s.watchedSince.get(signal);
        if (since == null) {
            return NOT_POSSIBLE;
        }
        if (since >= s.ticks.size()) {
            return NOT_FOUND;
        }
        long least = Long.MAX_VALUE;
        long greatest = Long.MIN_VALUE;
        int at = -1;
        for (int t = since; t < s.ticks.size(); t++) {
            least = Math.min(least, s.past(signal, t));
            if (s.past(signal, t) > greatest) {
                greatest = s.past(signal, t);
                at = t;
            }
        }
        return what == 0 ? (int) least : what == 1 ? (int) greatest : at;
    }

    long measure(int what) {
        if (!in(what, 0, 3)) {
            return INVALID;
        }
        long errors = 0;
        long effort = 0;
        long overshoot = 0;
        for (int t = s.sectionStart; t < s.ticks.size(); t++) {
            long above = s.past(1, t) - s.past(0, t);
            errors += Math.abs(above);
            effort += Math.abs(s.past(2, t) - s.past(2, t - 1));
            overshoot = Math.max(overshoot, s.setpoint >= s.setpointBefore ? above : -above);
        }
        return new long[] {errors, effort, overshoot, s.ticks.size() - s.sectionStart}[what];
    }

    int settledTicks(int tolerance) {
        if (!in(tolerance, 0, 100000)) {
            return INVALID;
        }
        int n = 0;
        int t = s.ticks.size() - 1;
        while (n < 64 && t >= s.sectionStart
            && Math.abs(s.past(0, t) - s.past(1, t)) <= tolerance) {
            n++;
            t--;
        }
        return n;
    }

    int store() {
        if (stored.size() == 2) {
            return CAPACITY;
        }
        stored.addLast(s.copy());
        return stored.size();
    }

    int recall() {
        if (stored.isEmpty()) {
            return NOT_POSSIBLE;
        }
        s = stored.removeLast();
        return stored.size();
    }

    long correlation(int lag) {
        if (!in(lag, 0, 30)) {
            return INVALID;
        }
        long sum = 0;
        int size = s.ticks.size();
        for (int t = size - 1; t >= 0 && t >= size - 32; t--) {
            sum += (s.past(2, t - 1 - lag) - s.past(2, t - 2 - lag))
                * (s.past(1, t) - s.past(1, t - 1));
        }
        return par[5] < 0 ? sum * -1 : sum;
    }

    int estimatedLag() {
        long[] all = new long[31];
        for (int lag = 0; lag < 31; lag++) {
            all[lag] = correlation(lag);
        }
        long greatest = Arrays.stream(all).max().getAsLong();
        if (greatest <= 0) {
            return NOT_FOUND;
        }
        int lag = 0;
        while (all[lag] != greatest) {
            lag++;
        }
        return lag;
    }

    int tuneDelay() {
        int lag = estimatedLag();
        if (lag < 0) {
            return NOT_POSSIBLE;
        }
        for (int other = 0; other < 31; other++) {
            if (other != lag && correlation(lag) < 2 * correlation(other)) {
                return NOT_POSSIBLE;
            }
        }
        change();
        par[7] = 10 * lag;
        return par[7];
    }

    int ahead(int ticks, int signal) {
        if (!in(ticks, 1, 500) || !in(signal, 0, 9)) {
            return INVALID;
        }
        State later = s.copy();
        for (int n = 0; n < ticks; n++) {
            tick(later, par, false);
        }
        return (int) later.present(signal);
    }

    int bestGain(int ticks) {
        if (!in(ticks, 1, 100)) {
            return INVALID;
        }
        long least = Long.MAX_VALUE;
        int best = -1;
        for (int gain = 0; gain <= 5000; gain += 250) {
            int[] other = par.clone();
            other[0] = gain;
            State later = s.copy();
            long sum = 0;
            for (int n = 0; n < ticks; n++) {
                tick(later, other, false);
                sum += Math.abs(later.latest(0) - later.latest(1));
            }
            if (sum < least) {
                least = sum;
                best = gain;
            }
        }
        return best;
    }

    int idealDifference(int ticks) {
        if (!in(ticks, 1, 200)) {
            return INVALID;
        }
        int[] quiet = par.clone();
        quiet[14] = 0;
        int[] prompt = quiet.clone();
        prompt[4] = 0;
        int j = par[4] / 10;
        long[] actual = processValues(quiet, ticks + j, false);
        long[] ideal = processValues(prompt, ticks, true);
        long greatest = 0;
        for (int t = 0; t <= ticks; t++) {
            greatest = Math.max(greatest, Math.abs(actual[t + j] - ideal[t]));
        }
        return (int) greatest;
    }

    /** y at the times 0 to last. */
    private long[] processValues(int[] used, int last, boolean ideal) {
        State st = new State();
        st.setpoint = s.setpoint;
        long[] values = new long[last + 1];
        for (int t = 1; t <= last; t++) {
            tick(st, used, ideal);
            values[t] = st.y;
        }
        return values;
    }
}
