import java.util.ArrayList;
import java.util.HashMap;
import java.util.List;
import java.util.Map;
import java.util.Random;

/**
 * Long runs of calls (the seeds are fixed) against a second reading of the document, written with
 * lists and maps; it sorts where the class searches, and drops by looking at every kept key.
 */
public final class ModelTest {
    private static final int RUNS = 600;
    private static final int CALLS = 512;
    private static final long OUT = Long.MIN_VALUE;
    private static final long ILLEGAL = Long.MIN_VALUE + 1;
    private static final int FAR = 1_000_000;

    public static void main(String[] args) {
        for (int seed = 0; seed < RUNS && Check.clean(); seed++) {
            new Run(seed).go();
        }
        Check.end("ModelTest");
    }

    /** One object, its model, and the source of the arguments. */
    private static final class Run {
        private final Random random;
        private final int seed;
        private final int classes;
        /** How many calls of a hundred get wild arguments. */
        private final int wild;
        /** Small spreads make things meet in areas and near one another. */
        private final int spread;
        private final RuleChoice real;
        private final Model model;
        private String call = "";

        Run(int seed) {
            this.seed = seed;
            random = new Random(seed);
            int asked = random.nextInt(22) - 2;
            classes = Math.max(1, Math.min(16, asked));
            wild = seed % 3 == 0 ? 0 : 4;
            spread = seed % 5 == 0 ? FAR : 3 + random.nextInt(20);
            real = new RuleChoice(asked);
            model = new Model(asked);
        }

        void go() {
            for (int i = 0; i < CALLS && Check.clean(); i++) {
                step(i);
            }
        }

        private void step(int number) {
            int what = number < 60 ? random.nextInt(12) : random.nextInt(44);
            int[] n = new int[4];
            long[] p = new long[4];
            draw(what, n, p);
            call = "seed " + seed + ", call " + number + ", operation " + what + " of "
                    + java.util.Arrays.toString(n) + java.util.Arrays.toString(p);
            long want = Ops.onModel(model, what, n, p);
            long got;
            try {
                got = Ops.onReal(real, what, n, p);
            } catch (RuntimeException e) {
                got = codeOf(e);
            }
            Check.due(call, got, want);
            Check.due(call + ", then kept()", real.kept(), model.kept.size());
            Check.due(call + ", then spared()", real.spared(), model.spared);
        }

        private long codeOf(RuntimeException e) {
            if (e.getClass() == IndexOutOfBoundsException.class) {
                return OUT;
            }
            if (e.getClass() == IllegalArgumentException.class) {
                return ILLEGAL;
            }
            Check.tell(call + " threw " + e);
            return 0;
        }

        private void draw(int what, int[] n, long[] p) {
            for (int i = 0; i < 4; i++) {
                p[i] = place();
            }
            if (what == Ops.AREA && random.nextInt(8) != 0) {
                sort(p);
            }
            Ops.bounds(what, model, classes, n);
            for (int i = 0; i < 4; i++) {
                n[i] = number(n[i], what, i);
            }
            if (what == Ops.RULE) {
                p[0] = random.nextInt(100) < wild ? wildLong() : random.nextInt(spread + 2);
                p[0] = Math.min(p[0], FAR + 1);
            }
            if (what == Ops.RANK) {
                n[1] = random.nextInt(100) < wild ? wildInt() : random.nextInt(7) - 3;
            }
        }

        private void sort(long[] p) {
            long x0 = Math.min(p[0], p[2]);
            long x1 = Math.max(p[0], p[2]);
            long y0 = Math.min(p[1], p[3]);
            long y1 = Math.max(p[1], p[3]);
            p[0] = x0;
            p[1] = y0;
            p[2] = x1;
            p[3] = y1;
        }

        private int number(int bound, int what, int position) {
            if (random.nextInt(100) < wild) {
                return wildInt();
            }
            boolean mayBeNone = (what == Ops.RULE && position > 0) || (what == Ops.IN_AREA && position == 1);
            if (mayBeNone && random.nextInt(2) == 0) {
                return -1;
            }
            return bound < 1 ? 0 : random.nextInt(bound);
        }

        private long place() {
            return random.nextInt(200) < wild ? wildLong() : random.nextInt(2 * spread + 1) - spread;
        }

        private int wildInt() {
            int[] some = {-2, -1, 6, 7, 8, 12, 15, 16, 39, 40, 41, 1000, 1001, -1000, -1001,
                Integer.MIN_VALUE, Integer.MAX_VALUE};
            return some[random.nextInt(some.length)];
        }

        private long wildLong() {
            long[] some = {FAR, FAR + 1, -FAR, -FAR - 1, Long.MIN_VALUE, Long.MAX_VALUE, 1L << 32, -(1L << 32)};
            return some[random.nextInt(some.length)];
        }
    }

    /** The operations by number, on the class and on the model. */
    private static final class Ops {
        static final int RULE = 0;
        static final int RANK = 2;
        static final int AREA = 3;
        static final int IN_AREA = 4;

        /** Below which number each argument stays in an ordinary call. */
        static void bounds(int what, Model m, int classes, int[] n) {
            int things = m.things.size();
            int rules = m.rules.size();
            switch (kindOf(what)) {
                case 0 -> set(n, 3, classes, classes, 8);
                case 2, 4 -> set(n, rules, m.areas.size(), 1, 1);
                case 5 -> set(n, classes, 3, 1, 1);
                case 7 -> set(n, things, classes, 3, 1);
                case 8 -> set(n, things, 1, 1, 1);
                case 9, 10 -> set(n, 3, things, things, 1);
                case 11 -> set(n, 3, things, things, 6);
                case 12 -> set(n, 3, things, things, rules);
                case 13 -> set(n, 4, 8, 1, 1);
                case 14 -> set(n, 3, 1, 1, 1);
                case 15 -> set(n, m.pairs.size() + 2, 2, 1, 1);
                default -> set(n, 1, 1, 1, 1);
            }
        }

        private static void set(int[] n, int a, int b, int c, int d) {
            n[0] = a;
            n[1] = b;
            n[2] = c;
            n[3] = d;
        }

        /** Folds the many numbers drawn onto the calls, the questions more often than the rest. */
        private static int kindOf(int what) {
            int[] fold = {0, 5, 2, 3, 4, 5, 5, 7, 8, 9, 10, 11, 12, 13, 14, 15};
            if (what < fold.length) {
                return fold[what];
            }
            return what < 28 ? 9 : what < 33 ? 8 : what < 36 ? 12 : what < 40 ? 15 : what < 42 ? 14 : 11;
        }

        static long onReal(RuleChoice x, int what, int[] n, long[] p) {
            return switch (kindOf(what)) {
                case 0 -> x.rule(n[0], n[1], n[2], n[3], p[0]);
                case 2 -> bit(x.rank(n[0], n[1]));
                case 3 -> x.area(p[0], p[1], p[2], p[3]);
                case 4 -> bit(x.inArea(n[0], n[1]));
                case 5 -> x.thing(n[0], n[1], p[0], p[1]);
                case 7 -> bit(x.make(n[0], n[1], n[2]));
                case 8 -> bit(x.move(n[0], p[0], p[1]));
                case 9 -> x.winner(n[0], n[1], n[2]);
                case 10 -> x.value(n[0], n[1], n[2]);
                case 11 -> x.listed(n[0], n[1], n[2], n[3]);
                case 12 -> x.why(n[0], n[1], n[2], n[3]);
                case 13 -> x.greatest(n[0], n[1]);
                case 14 -> x.close(n[0]);
                default -> x.pair(n[0], n[1]);
            };
        }

        static long onModel(Model x, int what, int[] n, long[] p) {
            return switch (kindOf(what)) {
                case 0 -> x.rule(n[0], n[1], n[2], n[3], p[0]);
                case 2 -> x.rank(n[0], n[1]);
                case 3 -> x.area(p[0], p[1], p[2], p[3]);
                case 4 -> x.inArea(n[0], n[1]);
                case 5 -> x.thing(n[0], n[1], p[0], p[1]);
                case 7 -> x.make(n[0], n[1], n[2]);
                case 8 -> x.move(n[0], p[0], p[1]);
                case 9 -> x.winner(n[0], n[1], n[2]);
                case 10 -> x.value(n[0], n[1], n[2]);
                case 11 -> x.listed(n[0], n[1], n[2], n[3]);
                case 12 -> x.why(n[0], n[1], n[2], n[3]);
                case 13 -> x.greatest(n[0], n[1]);
                case 14 -> x.close(n[0]);
                default -> x.pair(n[0], n[1]);
            };
        }

        private static long bit(boolean b) {
            return b ? 1 : 0;
        }
    }

    private static final class ModelRule {
        int number;
        int kind;
        int classA;
        int classB;
        int layer;
        long value;
        int rank = 0;
        int area = -1;
    }

    private record Key(int kind, int low, int high) {
    }

    /** Every call answers OUT or ILLEGAL where the document wants an exception. */
    private static final class Model {
        private final int classes;
        final List<ModelRule> rules = new ArrayList<>();
        final List<long[]> areas = new ArrayList<>();
        /** Class, layer, x, y. */
        final List<long[]> things = new ArrayList<>();
        final List<int[]> pairs = new ArrayList<>();
        final Map<Key, Integer> kept = new HashMap<>();
        long spared = 0;

        Model(int asked) {
            classes = asked < 1 ? 1 : asked > 16 ? 16 : asked;
        }

        private static boolean among(long n, long least, long most) {
            return n >= least && n <= most;
        }

        private static boolean isPlace(long x, long y) {
            return among(x, -FAR, FAR) && among(y, -FAR, FAR);
        }

        long rule(int kind, int classA, int classB, int layer, long v) {
            if (!among(kind, 0, 5) || !among(classA, -1, classes - 1) || !among(classB, -1, classes - 1)
                    || !among(layer, -1, 7)) {
                return OUT;
            }
            if (!among(v, 0, 1_000_000)) {
                return ILLEGAL;
            }
            if (rules.size() == 40) {
                return -1;
            }
            ModelRule r = new ModelRule();
            r.number = rules.size();
            r.kind = kind;
            r.classA = classA;
            r.classB = classB;
            r.layer = layer;
            r.value = v;
            rules.add(r);
            kept.keySet().removeIf(key -> key.kind() == kind);
            return r.number;
        }

        long rank(int rule, int r) {
            if (!among(rule, 0, rules.size() - 1)) {
                return OUT;
            }
            if (!among(r, -1000, 1000)) {
                return ILLEGAL;
            }
            ModelRule row = rules.get(rule);
            boolean other = row.rank != r;
            row.rank = r;
            if (other) {
                kept.keySet().removeIf(key -> key.kind() == row.kind);
            }
            return other ? 1 : 0;
        }

        long area(long x0, long y0, long x1, long y1) {
            if (!isPlace(x0, y0) || !isPlace(x1, y1) || x0 > x1 || y0 > y1) {
                return ILLEGAL;
            }
            if (areas.size() == 12) {
                return -1;
            }
            areas.add(new long[] {x0, y0, x1, y1});
            return areas.size() - 1;
        }

        long inArea(int rule, int area) {
            if (!among(rule, 0, rules.size() - 1) || !among(area, -1, areas.size() - 1)) {
                return OUT;
            }
            ModelRule row = rules.get(rule);
            boolean other = row.area != area;
            row.area = area;
            if (other) {
                kept.keySet().removeIf(key -> key.kind() == row.kind);
            }
            return other ? 1 : 0;
        }

        long thing(int cls, int layer, long x, long y) {
            if (!among(cls, 0, classes - 1) || !among(layer, 0, 7)) {
                return OUT;
            }
            if (!isPlace(x, y)) {
                return ILLEGAL;
            }
            if (things.size() == 40) {
                return -1;
            }
            things.add(new long[] {cls, layer, x, y});
            return things.size() - 1;
        }

        long make(int thing, int cls, int layer) {
            if (!isThing(thing) || !among(cls, 0, classes - 1) || !among(layer, 0, 7)) {
                return OUT;
            }
            long[] row = things.get(thing);
            boolean other = row[0] != cls || row[1] != layer;
            row[0] = cls;
            row[1] = layer;
            if (other) {
                dropThing(thing);
            }
            return other ? 1 : 0;
        }

        long move(int thing, long x, long y) {
            if (!isThing(thing)) {
                return OUT;
            }
            if (!isPlace(x, y)) {
                return ILLEGAL;
            }
            long[] row = things.get(thing);
            boolean crosses = false;
            for (int area = 0; area < areas.size(); area++) {
                crosses |= lies(area, row[2], row[3]) != lies(area, x, y);
            }
            boolean other = row[2] != x || row[3] != y;
            row[2] = x;
            row[3] = y;
            if (crosses) {
                dropThing(thing);
            }
            return other ? 1 : 0;
        }

        private void dropThing(int thing) {
            kept.keySet().removeIf(key -> key.low() == thing || key.high() == thing);
        }

        private boolean isThing(int thing) {
            return among(thing, 0, things.size() - 1);
        }

        private boolean asks(int kind, int a, int b) {
            return among(kind, 0, 5) && isThing(a) && isThing(b);
        }

        private boolean lies(int area, long x, long y) {
            long[] r = areas.get(area);
            return among(x, r[0], r[2]) && among(y, r[1], r[3]);
        }

        /** 0, when it matches. */
        private int reason(ModelRule r, int kind, int a, int b) {
            long[] s = things.get(a);
            long[] t = things.get(b);
            if (r.kind != kind) {
                return 1;
            }
            boolean straight = (r.classA == -1 || r.classA == s[0]) && (r.classB == -1 || r.classB == t[0]);
            boolean round = (r.classA == -1 || r.classA == t[0]) && (r.classB == -1 || r.classB == s[0]);
            if (!straight && !round) {
                return 2;
            }
            if (r.layer != -1 && (s[1] != r.layer || t[1] != r.layer)) {
                return 3;
            }
            if (r.area != -1 && (!lies(r.area, s[2], s[3]) || !lies(r.area, t[2], t[3]))) {
                return 4;
            }
            return 0;
        }

        private List<ModelRule> matching(int kind, int a, int b) {
            List<ModelRule> found = new ArrayList<>();
            for (ModelRule r : rules) {
                if (reason(r, kind, a, b) == 0) {
                    found.add(r);
                }
            }
            found.sort((r, s) -> r.rank != s.rank ? s.rank - r.rank : s.number - r.number);
            return found;
        }

        private int first(int kind, int a, int b) {
            List<ModelRule> found = matching(kind, a, b);
            return found.isEmpty() ? -1 : found.get(0).number;
        }

        long winner(int kind, int a, int b) {
            if (!asks(kind, a, b)) {
                return OUT;
            }
            Key key = new Key(kind, Math.min(a, b), Math.max(a, b));
            if (kept.containsKey(key)) {
                spared++;
            }
            kept.put(key, first(kind, a, b));
            return kept.get(key);
        }

        long value(int kind, int a, int b) {
            long number = winner(kind, a, b);
            return number < 0 ? number : rules.get((int) number).value;
        }

        long listed(int kind, int a, int b, int k) {
            if (!asks(kind, a, b)) {
                return OUT;
            }
            List<ModelRule> found = matching(kind, a, b);
            return among(k, 0, found.size() - 1) ? found.get(k).number : -1;
        }

        long why(int kind, int a, int b, int rule) {
            if (!asks(kind, a, b) || !among(rule, 0, rules.size() - 1)) {
                return OUT;
            }
            int reason = reason(rules.get(rule), kind, a, b);
            int best = first(kind, a, b);
            if (reason != 0 || best == rule) {
                return reason;
            }
            return rules.get(rule).rank < rules.get(best).rank ? 5 : 6;
        }

        long greatest(int kind, int layer) {
            if (!among(kind, 0, 5) || !among(layer, 0, 7)) {
                return OUT;
            }
            return rules.stream().filter(r -> r.kind == kind && (r.layer == -1 || r.layer == layer))
                    .mapToLong(r -> r.value).max().orElse(-1);
        }

        long close(int kind) {
            if (!among(kind, 0, 5)) {
                return OUT;
            }
            pairs.clear();
            for (int a = 0; a < things.size(); a++) {
                for (int b = a + 1; b < things.size(); b++) {
                    long[] s = things.get(a);
                    long[] t = things.get(b);
                    int best = s[1] == t[1] ? first(kind, a, b) : -1;
                    long v = best < 0 ? 0 : rules.get(best).value;
                    if ((s[2] - t[2]) * (s[2] - t[2]) + (s[3] - t[3]) * (s[3] - t[3]) < v * v) {
                        pairs.add(new int[] {a, b});
                    }
                }
            }
            return pairs.size();
        }

        long pair(int k, int which) {
            if (!among(which, 0, 1)) {
                return OUT;
            }
            return among(k, 0, pairs.size() - 1) ? pairs.get(k)[which] : -1;
        }
    }
}
