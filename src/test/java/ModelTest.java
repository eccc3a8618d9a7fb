import java.util.ArrayList;
import java.util.Arrays;
import java.util.List;
import java.util.regex.Matcher;
import java.util.regex.Pattern;

/**
 * Runs of calls chosen by a fixed sequence of numbers, on the class and on a second, slower
 * reading of the document: every answer and every digest must be alike, and no call may throw.
 */
public final class ModelTest {
    /* The document tells nothing of calls behind the 512th: a run ends while one round more stays within. */
    private static final int RUNS = 5000, ROUNDS = 140, MOST_CALLS = 512, MOST_A_ROUND = 250;
    private static final String[] SAMPLES = {"g1 3;", "g2 5;", "g3 9;", "g4 6;", "g5 10;", "g6 12;",
        "f0 1;", "f3 2;", "f1 0;", "t2 12;", "t1 3;", "u1 40;", "d2 90;", "s-2;", "s 3;", "r1;", "r2;",
        "v0 3;", "v300 2;", "v 50 20;", "v100 60;", "g7 3;", "f9 0;", "s4;", "g1 0;"};
    private static final String SIGNS = "gftudsrv0123456789 ;-x";

    private static long seed = 12345;

    public static void main(String[] args) {
        for (int run = 0; run < RUNS; run++) {
            if (!runsAlike(run)) {
                break;
            }
        }
        Due.end();
    }

    private static int pick(int many) {
        seed = seed * 6364136223846793005L + 1442695040888963407L;
        return (int) ((seed >>> 33) % many);
    }

    /** Mostly within, now and then just out of it or far out. */
    private static int near(int least, int most) {
        int how = pick(40);
        if (how == 0) {
            return least - 1;
        }
        if (how == 1) {
            return most + 1;
        }
        if (how == 2) {
            return pick(2) == 0 ? Integer.MIN_VALUE : Integer.MAX_VALUE;
        }
        return least + pick(most - least + 1);
    }

    private static boolean runsAlike(int run) {
        GearHolds x = new GearHolds();
        Model m = new Model();
        List<String> told = new ArrayList<>();
        boolean built = pick(3) > 0;
        int[] sets = {3, 5, 9, 6, 10, 12, 24};
        int calls = 0;
        for (int call = 0; call < ROUNDS && calls + MOST_A_ROUND <= MOST_CALLS; call++) {
            int kind = built && call < 7 ? 0 : pick(24);
            int[] a = built && call < 7 ? new int[] {call + 1, sets[call], 0} : arguments(kind);
            if (kind == 20) {
                calls += typeSome(x, m);
            }
            calls += 2;
            long got = ask(x, kind, a);
            long due = m.ask(kind, a);
            long digest = x.digest();
            long dueDigest = m.digest();
            told.add("call " + kind + " " + Arrays.toString(a) + " text '" + m.text + "': " + due);
            Due.is("run " + run + " call " + call, due, got);
            Due.is("run " + run + " digest behind call " + call, dueDigest, digest);
            if (due != got || dueDigest != digest) {
                told.forEach(System.out::println);
                return false;
            }
        }
        return true;
    }

    private static int[] arguments(int kind) {
        switch (kind) {
            case 0: return new int[] {near(1, 7), near(0, 31), 0};
            case 1: return new int[] {near(0, 4), pick(2) == 0 ? 0 : near(0, 2), 0};
            case 2: return new int[] {near(0, 4), near(1, 20), 0};
            case 3:
            case 4: return new int[] {near(1, 7), near(0, 300), 0};
            case 5: return new int[] {near(-3, 3), 0, 0};
            case 6: return new int[] {near(0, 3), 0, 0};
            case 7: return pick(2) == 0 ? new int[] {0, near(1, 12), 0} : new int[] {near(0, 1), near(0, 999), 0};
            case 8: return new int[] {near(1, 7), near(0, 4), 0};
            case 9: return new int[] {near(0, 4), near(0, 3), 0};
            case 10: return new int[] {near(0, 31), 0, 0};
            case 11: return new int[] {near(1, 7), near(1, 7), near(0, 2)};
            case 12: return new int[] {near(1, 7), near(1, 7), near(-1, 3)};
            case 13: return new int[] {near(1, 7), near(1, 7), near(0, 40)};
            case 14: return new int[] {near(1, 7), near(1, 7), near(0, 1)};
            case 15: return new int[] {near(0, 300), 0, 0};
            case 16: return new int[] {near(0, 150), near(1, pick(2) == 0 ? 60 : 4), 0};
            case 17: return new int[] {near(0, 7), 0, 0};
            case 18: return new int[] {near(0, 12), 0, 0};
            case 19: return new int[] {near(0, 127), 0, 0};
            case 21: return new int[] {near(0, 1), 0, 0};
            case 23: return new int[] {near(0, 4), 0, 0};
            default: return new int[] {0, 0, 0};
        }
    }

    private static long ask(GearHolds x, int kind, int[] a) {
        switch (kind) {
            case 0: return x.gear(a[0], a[1]);
            case 1: return x.fails(a[0], a[1]);
            case 2: return x.trues(a[0], a[1]);
            case 3: return x.up(a[0], a[1]);
            case 4: return x.down(a[0], a[1]);
            case 5: return x.slope(a[0]);
            case 6: return x.driver(a[0]);
            case 7: return x.sets(a[0], a[1]);
            case 8: return x.of(a[0], a[1]);
            case 9: return x.clutch(a[0], a[1]);
            case 10: return x.ties(a[0]);
            case 11: return x.simple(a[0], a[1], a[2]);
            case 12: return x.way(a[0], a[1], a[2]);
            case 13: return x.over(a[0], a[1], a[2]);
            case 14: return x.worst(a[0], a[1], a[2]);
            case 15: return x.want(a[0]);
            case 16: return x.drives(a[0], a[1]);
            case 17: return x.puts(a[0]);
            case 18: return x.state(a[0]);
            case 19: return x.type(a[0]);
            case 20: return x.reads();
            case 21: return x.why(a[0]);
            case 22: return x.back();
            default: return x.told(a[0]);
        }
    }

    /** How many calls it took. */
    private static int typeSome(GearHolds x, Model m) {
        boolean clears = pick(4) > 0;
        if (clears) {
            Due.is("clear", m.text.length(), x.clear());
            m.text = "";
        }
        StringBuilder some = new StringBuilder();
        int orders = pick(10) == 0 ? 0 : 1 + pick(pick(4) == 0 ? 30 : 6);
        for (int i = 0; i < orders; i++) {
            some.append(SAMPLES[pick(SAMPLES.length)]);
            if (pick(6) == 0) {
                some.append(' ');
            }
        }
        for (int i = pick(4) - 1; i > 0 && some.length() > 0; i--) {
            int at = pick(some.length());
            char sign = SIGNS.charAt(pick(SIGNS.length()));
            if (pick(3) == 0) {
                some.deleteCharAt(at);
            } else if (pick(2) == 0) {
                some.setCharAt(at, sign);
            } else {
                some.insert(at, sign);
            }
        }
        for (int i = 0; i < some.length(); i++) {
            Due.is("type", m.ask(19, new int[] {some.charAt(i)}), x.type(some.charAt(i)));
        }
        return some.length() + (clears ? 1 : 0);
    }

    /** What goes with a STATE, held as the document names it. */
    private static final class Box {
        int[] set = new int[8];
        int[] up = new int[8];
        int[] down = new int[8];
        int[] status = new int[5];
        int[] real = {8, 8, 8, 8, 8};
        int[] fill = {8, 8, 8, 8, 8};
        int slope = 0;
        int driver = 0;
        int ramp = 5;
        int limit = 100;
        int in = 0;
        int time = 0;
        int hold = 0;
        int lastUp = -1;
        int[] counts = new int[4];

        Box copy() {
            Box b = new Box();
            b.set = set.clone();
            b.up = up.clone();
            b.down = down.clone();
            b.status = status.clone();
            b.real = real.clone();
            b.fill = fill.clone();
            b.counts = counts.clone();
            b.slope = slope;
            b.driver = driver;
            b.ramp = ramp;
            b.limit = limit;
            b.in = in;
            b.time = time;
            b.hold = hold;
            b.lastUp = lastUp;
            return b;
        }
    }

    private static final class Model {
        private static final Pattern ORDER = Pattern.compile(
                " *(?:([gftudv]) *([0-9]{1,3}) +([0-9]{1,3})|(s) *(-?[0-9]{1,3})|(r) *([0-9]{1,3})) *;");
        private static final Pattern TEXT = Pattern.compile("(?:" + ORDER.pattern() + ")+ *");

        Box b = new Box();
        final List<Box> states = new ArrayList<>();
        String text = "";
        final int[] refused = new int[3];
        int causeKind = 0;
        int causeOrder = -1;

        Model() {
            for (int g = 1; g <= 7; g++) {
                b.up[g] = 20 * g;
                b.down[g] = 20 * g - 15;
            }
        }

        long ask(int kind, int[] a) {
            if (kind == 20) {
                return reads();
            }
            if (kind <= 7 || kind == 16 || kind == 17) {
                Box before = b.copy();
                int answer = change(kind, a[0], a[1]);
                if (answer <= -2) {
                    refused[-2 - answer]++;
                } else {
                    keep(before);
                }
                return kind == 5 && answer >= -1 ? answer - 10 : answer;
            }
            int answer = question(kind, a);
            if (answer <= -2 && answer >= -4) {
                refused[-2 - answer]++;
            }
            return answer;
        }

        void keep(Box before) {
            states.add(before);
            if (states.size() > 5) {
                states.remove(0);
            }
        }

        static boolean out(int v, int least, int most) {
            return v < least || v > most;
        }

        /** What was; SLOPE and 13, that no SLOPE looks like a refusal. */
        int change(int kind, int p, int v) {
            int was;
            switch (kind) {
                case 0:
                    if (out(p, 1, 7) || out(v, 0, 31)) {
                        return -2;
                    }
                    for (int g = 1; g <= 7; g++) {
                        if (v > 0 && g != p && b.set[g] == v) {
                            return -3;
                        }
                    }
                    was = b.set[p];
                    b.set[p] = v;
                    neutralIfUnfit();
                    return was;
                case 1:
                    if (out(p, 0, 4) || out(v, 0, 2)) {
                        return -2;
                    }
                    was = b.status[p];
                    b.status[p] = v;
                    neutralIfUnfit();
                    return was;
                case 2:
                    return out(p, 0, 4) || out(v, 1, 20) ? -2 : swap(b.real, p, v);
                case 3:
                    return out(p, 1, 7) || out(v, 0, 300) ? -2 : swap(b.up, p, v);
                case 4:
                    return out(p, 1, 7) || out(v, 0, 300) ? -2 : swap(b.down, p, v);
                case 5:
                    if (out(p, -3, 3)) {
                        return -2;
                    }
                    was = b.slope + 13;
                    b.slope = p;
                    return was;
                case 6:
                    if (out(p, 0, 3)) {
                        return -2;
                    }
                    was = b.driver;
                    b.driver = p;
                    return was;
                case 7:
                    if (p == 0 && !out(v, 1, 12)) {
                        was = b.ramp;
                        b.ramp = v;
                        return was;
                    }
                    if (p == 1 && !out(v, 0, 999)) {
                        was = b.limit;
                        b.limit = v;
                        return was;
                    }
                    return -2;
                case 16:
                    if (out(p, 0, 300) || out(v, 1, 60)) {
                        return -2;
                    }
                    for (int i = 0; i < v; i++) {
                        tick(p);
                    }
                    return b.in;
                default:
                    if (out(p, 0, 7)) {
                        return -2;
                    }
                    if (p != 0 && !fit(p)) {
                        return -3;
                    }
                    was = b.in;
                    b.in = p;
                    return was;
            }
        }

        static int swap(int[] row, int p, int v) {
            int was = row[p];
            row[p] = v;
            return was;
        }

        void neutralIfUnfit() {
            if (b.in != 0 && !fit(b.in)) {
                b.in = 0;
            }
        }

        boolean fit(int g) {
            int open = 0;
            int shut = 0;
            for (int c = 0; c < 5; c++) {
                open |= b.status[c] == 1 ? 1 << c : 0;
                shut |= b.status[c] == 2 ? 1 << c : 0;
            }
            return b.set[g] != 0 && (b.set[g] & open) == 0 && (b.set[g] | ~shut) == -1;
        }

        /** COMING, or NONE. */
        int coming(int g, int k) {
            if (g == k || !fit(g) || !fit(k)) {
                return -1;
            }
            List<Integer> come = new ArrayList<>();
            List<Integer> gone = new ArrayList<>();
            for (int c = 0; c < 5; c++) {
                boolean old = (b.set[g] & 1 << c) != 0;
                boolean fresh = (b.set[k] & 1 << c) != 0;
                if (fresh && !old) {
                    come.add(c);
                }
                if (old && !fresh) {
                    gone.add(c);
                }
            }
            return come.size() == 1 && gone.size() == 1 ? come.get(0) : -1;
        }

        /** All rows of GEARS by their length, each length by numbers: the first that gets there. */
        List<Integer> way(int g, int k) {
            List<List<Integer>> rows = new ArrayList<>();
            rows.add(List.of(g));
            for (int length = 1; length <= 6; length++) {
                List<List<Integer>> longer = new ArrayList<>();
                for (List<Integer> row : rows) {
                    for (int n = 1; n <= 7; n++) {
                        if (!row.contains(n) && coming(row.get(row.size() - 1), n) >= 0) {
                            List<Integer> more = new ArrayList<>(row);
                            more.add(n);
                            if (n == k) {
                                return more.subList(1, more.size());
                            }
                            longer.add(more);
                        }
                    }
                }
                rows = longer;
            }
            return List.of();
        }

        int share(int t, int from) {
            return Math.max(0, Math.min(1000, 1000 * (t - from) / b.ramp));
        }

        int over(int c, int t) {
            return share(t, b.real[c]) + (1000 - share(t, b.fill[c])) - 1000;
        }

        int worst(int c, boolean bind) {
            int most = 0;
            for (int t = 0; t <= 40; t++) {
                most = Math.max(most, bind ? over(c, t) : -over(c, t));
            }
            return most;
        }

        int want(int v) {
            if (b.in > 0) {
                int added = 5 * b.slope + 10 * b.driver;
                if (v >= b.up[b.in] + added) {
                    for (int g = b.in + 1; g <= 7; g++) {
                        if (fit(g)) {
                            return g;
                        }
                    }
                }
                if (v < b.down[b.in] + added) {
                    for (int g = b.in - 1; g >= 1; g--) {
                        if (fit(g)) {
                            return g;
                        }
                    }
                }
                return b.in;
            }
            for (int g = 1; g <= 7; g++) {
                if (fit(g)) {
                    return g;
                }
            }
            return 0;
        }

        void tick(int v) {
            b.time++;
            b.hold = Math.max(0, b.hold - 1);
            int to = want(v);
            int from = b.in;
            if (to == from) {
                return;
            }
            if (from == 0) {
                b.in = to;
                return;
            }
            if (to > from && b.hold > 0) {
                return;
            }
            List<Integer> way = way(from, to);
            if (way.isEmpty()) {
                return;
            }
            int g = from;
            for (int k : way) {
                int c = coming(g, k);
                boolean flare = worst(c, false) > b.limit;
                boolean bind = worst(c, true) > b.limit;
                b.counts[0]++;
                b.counts[1] += flare ? 1 : 0;
                b.counts[2] += bind ? 1 : 0;
                if (flare) {
                    b.fill[c] = Math.min(20, b.fill[c] + 1);
                } else if (bind) {
                    b.fill[c] = Math.max(1, b.fill[c] - 1);
                }
                g = k;
            }
            b.in = to;
            if (to > from) {
                b.lastUp = b.time;
            } else if (b.lastUp >= 0 && b.time - b.lastUp <= 5) {
                b.counts[3]++;
                b.hold = 10;
            }
        }

        int question(int kind, int[] a) {
            boolean pair = !out(a[0], 1, 7) && a.length > 1 && !out(a[1], 1, 7) && a[0] != a[1];
            switch (kind) {
                case 8: return out(a[0], 1, 7) || out(a[1], 0, 4) ? -2 : of(a[0], a[1]);
                case 9: return out(a[0], 0, 4) || out(a[1], 0, 3) ? -2 : clutch(a[0], a[1]);
                case 10: return out(a[0], 0, 31) ? -2 : ties(a[0]);
                case 11:
                    if (!pair || out(a[2], 0, 2)) {
                        return -2;
                    }
                    int come = coming(a[0], a[1]);
                    return a[2] == 0 ? come >= 0 ? 1 : 0 : a[2] == 1 ? come : coming(a[1], a[0]);
                case 12:
                    if (!pair || a[2] < -1) {
                        return -2;
                    }
                    if (!fit(a[0]) || !fit(a[1])) {
                        return -3;
                    }
                    List<Integer> way = way(a[0], a[1]);
                    if (way.isEmpty()) {
                        return -5;
                    }
                    return a[2] == -1 ? way.size() : a[2] < way.size() ? way.get(a[2]) : -5;
                case 13:
                    if (!pair || out(a[2], 0, 40)) {
                        return -2;
                    }
                    return coming(a[0], a[1]) < 0 ? -3 : over(coming(a[0], a[1]), a[2]) + 1000;
                case 14:
                    if (!pair || out(a[2], 0, 1)) {
                        return -2;
                    }
                    return coming(a[0], a[1]) < 0 ? -3 : worst(coming(a[0], a[1]), a[2] == 1);
                case 15: return out(a[0], 0, 300) ? -2 : want(a[0]);
                case 18: return out(a[0], 0, 12) ? -2 : state(a[0]);
                case 19:
                    if (out(a[0], 0, 127)) {
                        return -2;
                    }
                    if (text.length() == 150) {
                        return -4;
                    }
                    text += (char) a[0];
                    return text.length();
                case 21: return out(a[0], 0, 1) ? -2 : a[0] == 0 ? causeKind : causeOrder;
                case 22:
                    if (states.isEmpty()) {
                        return -3;
                    }
                    b = states.remove(states.size() - 1);
                    return states.size();
                default:
                    if (out(a[0], 0, 4)) {
                        return -2;
                    }
                    return a[0] < 3 ? refused[a[0]] : a[0] == 3 ? text.length() : states.size();
            }
        }

        int of(int g, int what) {
            int simple = 0;
            for (int k = 1; k <= 7; k++) {
                simple += coming(g, k) >= 0 ? 1 : 0;
            }
            return new int[] {b.set[g], fit(g) ? 1 : 0, b.up[g], b.down[g], simple}[what];
        }

        int clutch(int c, int what) {
            int closing = 0;
            for (int set : b.set) {
                closing += (set & 1 << c) != 0 ? 1 : 0;
            }
            return new int[] {b.status[c], b.real[c], b.fill[c], closing}[what];
        }

        int ties(int v) {
            int within = 0;
            for (int set : b.set) {
                within += set != 0 && (set | v) == v ? 1 : 0;
            }
            return within > 1 ? 1 : 0;
        }

        int state(int what) {
            int fits = 0;
            for (int g = 1; g <= 7; g++) {
                fits += fit(g) ? 1 << g : 0;
            }
            return new int[] {b.in, b.time, b.hold, b.lastUp, b.counts[0], b.counts[1], b.counts[2],
                b.counts[3], b.slope + 3, b.driver, b.ramp, b.limit, fits}[what];
        }

        /** A byte can stand where it does, if what ends with it can be gone on with to a whole text. */
        int fault() {
            if (TEXT.matcher(text).matches()) {
                return -1;
            }
            for (int end = 1; end <= text.length(); end++) {
                Matcher m = TEXT.matcher(text.substring(0, end));
                if (!m.matches() && !m.hitEnd()) {
                    return end - 1;
                }
            }
            return text.length();
        }

        int reads() {
            int fault = fault();
            if (fault >= 0) {
                return -10 - fault;
            }
            Box before = b.copy();
            int done = 0;
            Matcher m = ORDER.matcher(text);
            while (m.find()) {
                int answer;
                if (m.group(1) != null) {
                    int kind = new int[] {0, 1, 2, 3, 4, 16}["gftudv".indexOf(m.group(1))];
                    answer = change(kind, Integer.parseInt(m.group(2)), Integer.parseInt(m.group(3)));
                } else if (m.group(4) != null) {
                    answer = change(5, Integer.parseInt(m.group(5)), 0);
                } else {
                    answer = change(6, Integer.parseInt(m.group(7)), 0);
                }
                if (answer <= -2) {
                    b = before;
                    causeKind = -answer;
                    causeOrder = done;
                    return -1000 - done;
                }
                done++;
            }
            keep(before);
            return done;
        }

        long digest() {
            List<Integer> all = new ArrayList<>();
            for (int what = 0; what <= 4; what++) {
                all.add(what < 3 ? refused[what] : what == 3 ? text.length() : states.size());
            }
            all.add(causeKind);
            all.add(causeOrder);
            for (int i = 0; i < 35; i++) {
                all.add(of(i / 5 + 1, i % 5));
            }
            for (int i = 0; i < 20; i++) {
                all.add(clutch(i / 4, i % 4));
            }
            for (int what = 0; what <= 12; what++) {
                all.add(state(what));
            }
            long h = 2411;
            for (int v : all) {
                h = 31 * h + v;
            }
            return h;
        }
    }
}
