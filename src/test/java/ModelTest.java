import java.util.ArrayList;
import java.util.Arrays;
import java.util.HashMap;
import java.util.List;
import java.util.Map;
import java.util.Random;

/**
 * Long runs of calls (the seeds are fixed) against a second reading of the document, written with
 * lists and maps; it sorts where the class searches, and drops by looking at every kept key.
 */
public final class ModelTest {
    private static final int RUNS = 600;
    /** As many as the document allows an object: what later calls answer is free. */
    private static final int CALLS = 512;
    private static final long OUT = Long.MIN_VALUE;
    private static final long ILLEGAL = Long.MIN_VALUE + 1;
    private static final int FAR = 1_000_000;
    private static final int NONE = RuleChoice.NONE;
    private static final int[] WILD_INTS = {-2, -1, 6, 7, 8, 12, 15, 16, 39, 40, 41, 1000, 1001, -1000, -1001,
        Integer.MIN_VALUE, Integer.MAX_VALUE};
    private static final long[] WILD_LONGS = {FAR, FAR + 1, -FAR, -FAR - 1, Long.MIN_VALUE, Long.MAX_VALUE,
        1L << 32, -(1L << 32)};

    public static void main(String[] args) {
        for (int seed = 0; seed < RUNS && Check.clean(); seed++) {
            new Run(seed).go();
        }
        Check.end("ModelTest");
    }

    private enum Op {
        RULE(5, 1), RANK(1, 1), AREA(1, 1), IN_AREA(1, 1), THING(5, 1), MAKE(1, 2), MOVE(1, 6), WINNER(2, 12),
        VALUE(1, 3), LISTED(1, 3), WHY(1, 4), GREATEST(1, 1), CLOSE(1, 2), PAIR(1, 4), KEPT(3, 8), SPARED(1, 4);

        /** How often it is drawn, while the run is young and after that. */
        final int early;
        final int late;

        Op(int early, int late) {
            this.early = early;
            this.late = late;
        }

        static Op draw(Random random, boolean young) {
            int sum = 0;
            for (Op op : values()) {
                sum += young ? op.early : op.late;
            }
            int left = random.nextInt(sum);
            for (Op op : values()) {
                left -= young ? op.early : op.late;
                if (left < 0) {
                    return op;
                }
            }
            throw new IllegalStateException("the weights were summed wrongly");
        }
    }

    /** One object, its model, and the source of the arguments. */
    private static final class Run {
        private final Random random;
        private final int seed;
        private final int classes;
        /** How many of a hundred arguments are wild. */
        private final int wild;
        /** Small spreads make things meet in areas and near one another. */
        private final int spread;
        private final RuleChoice real;
        private final Model model;

        Run(int seed) {
            this.seed = seed;
            random = new Random(seed);
            int asked = random.nextInt(22) - 2;
            classes = Math.max(1, Math.min(16, asked));
            wild = seed % 3 == 0 ? 0 : 4;
            spread = seed % 5 == 0 ? FAR : 3 + random.nextInt(20);
            real = new RuleChoice(asked);
            model = new Model(asked);
        }

        void go() {
            for (int i = 0; i < CALLS && Check.clean(); i++) {
                step(i);
            }
        }

        private void step(int number) {
            Op op = Op.draw(random, number < 80);
            int[] n = numbers(op);
            long[] p = places(op);
            String call = "seed " + seed + ", call " + number + ": " + op + Arrays.toString(n) + Arrays.toString(p);
            long got;
            try {
                got = onReal(real, op, n, p);
            } catch (RuntimeException e) {
                got = codeOf(call, e);
            }
            Check.due(call, got, onModel(model, op, n, p));
        }

        private long codeOf(String call, RuntimeException e) {
            if (e.getClass() == IndexOutOfBoundsException.class) {
                return OUT;
            }
            if (e.getClass() == IllegalArgumentException.class) {
                return ILLEGAL;
            }
            Check.tell(call + " threw " + e);
            return 0;
        }

        private int[] numbers(Op op) {
            int things = model.things.size();
            int rules = model.rules.size();
            return switch (op) {
                case RULE -> some(below(3), below(classes, NONE), below(classes, NONE), below(8, NONE));
                case RANK -> some(below(rules), below(7) - 3);
                case IN_AREA -> some(below(rules), below(model.areas.size(), NONE));
                case THING -> some(below(classes), below(3));
                case MAKE -> some(below(things), below(classes), below(3));
                case MOVE -> some(below(things));
                case WINNER, VALUE -> some(below(3), below(things), below(things));
                case LISTED -> some(below(3), below(things), below(things), below(6));
                case WHY -> some(below(3), below(things), below(things), below(rules));
                case GREATEST -> some(below(4), below(8));
                case CLOSE -> some(below(3));
                case PAIR -> some(below(model.pairs.size() + 2), below(2));
                case AREA, KEPT, SPARED -> some();
            };
        }

        private int[] some(int... ordinary) {
            for (int i = 0; i < ordinary.length; i++) {
                if (random.nextInt(100) < wild) {
                    ordinary[i] = WILD_INTS[random.nextInt(WILD_INTS.length)];
                }
            }
            return ordinary;
        }

        private int below(int bound) {
            return bound < 1 ? 0 : random.nextInt(bound);
        }

        private int below(int bound, int orThis) {
            return bound < 1 || random.nextInt(2) == 0 ? orThis : random.nextInt(bound);
        }

        private long[] places(Op op) {
            return switch (op) {
                case RULE -> new long[] {orWild(random.nextInt(spread + 1))};
                case THING, MOVE -> new long[] {coordinate(), coordinate()};
                case AREA -> corners();
                default -> new long[0];
            };
        }

        private long[] corners() {
            long[] p = {coordinate(), coordinate(), coordinate(), coordinate()};
            boolean mayBeTurned = random.nextInt(8) == 0;
            if (mayBeTurned) {
                return p;
            }
            return new long[] {Math.min(p[0], p[2]), Math.min(p[1], p[3]), Math.max(p[0], p[2]), Math.max(p[1], p[3])};
        }

        private long coordinate() {
            return orWild(random.nextInt(2 * spread + 1) - spread);
        }

        private long orWild(long ordinary) {
            return random.nextInt(100) < wild ? WILD_LONGS[random.nextInt(WILD_LONGS.length)] : ordinary;
        }
    }

    private static long onReal(RuleChoice x, Op op, int[] n, long[] p) {
        return switch (op) {
            case RULE -> x.rule(n[0], n[1], n[2], n[3], p[0]);
            case RANK -> bit(x.rank(n[0], n[1]));
            case AREA -> x.area(p[0], p[1], p[2], p[3]);
            case IN_AREA -> bit(x.inArea(n[0], n[1]));
            case THING -> x.thing(n[0], n[1], p[0], p[1]);
            case MAKE -> bit(x.make(n[0], n[1], n[2]));
            case MOVE -> bit(x.move(n[0], p[0], p[1]));
            case WINNER -> x.winner(n[0], n[1], n[2]);
            case VALUE -> x.value(n[0], n[1], n[2]);
            case LISTED -> x.listed(n[0], n[1], n[2], n[3]);
            case WHY -> x.why(n[0], n[1], n[2], n[3]);
            case GREATEST -> x.greatest(n[0], n[1]);
            case CLOSE -> x.close(n[0]);
            case PAIR -> x.pair(n[0], n[1]);
            case KEPT -> x.kept();
            case SPARED -> x.spared();
        };
    }

    private static long bit(boolean b) {
        return b ? 1 : 0;
    }

    private static long onModel(Model x, Op op, int[] n, long[] p) {
        return switch (op) {
            case RULE -> x.rule(n[0], n[1], n[2], n[3], p[0]);
            case RANK -> x.rank(n[0], n[1]);
            case AREA -> x.area(p[0], p[1], p[2], p[3]);
            case IN_AREA -> x.inArea(n[0], n[1]);
            case THING -> x.thing(n[0], n[1], p[0], p[1]);
            case MAKE -> x.make(n[0], n[1], n[2]);
            case MOVE -> x.move(n[0], p[0], p[1]);
            case WINNER -> x.winner(n[0], n[1], n[2]);
            case VALUE -> x.value(n[0], n[1], n[2]);
            case LISTED -> x.listed(n[0], n[1], n[2], n[3]);
            case WHY -> x.why(n[0], n[1], n[2], n[3]);
            case GREATEST -> x.greatest(n[0], n[1]);
            case CLOSE -> x.close(n[0]);
            case PAIR -> x.pair(n[0], n[1]);
            case KEPT -> x.kept.size();
            case SPARED -> x.spared;
        };
    }

    private static final class ModelRule {
        int number;
        int kind;
        int classA;
        int classB;
        int layer;
        long value;
        int rank = 0;
        int area = -1;
    }

    private record Key(int kind, int low, int high) {
    }

    /** Every call answers OUT or ILLEGAL where the document wants an exception. */
    private static final class Model {
        private final int classes;
        final List<ModelRule> rules = new ArrayList<>();
        final List<long[]> areas = new ArrayList<>();
        /** Class, layer, x, y. */
        final List<long[]> things = new ArrayList<>();
        final List<int[]> pairs = new ArrayList<>();
        final Map<Key, Integer> kept = new HashMap<>();
        long spared = 0;

        Model(int asked) {
            classes = asked < 1 ? 1 : asked > 16 ? 16 : asked;
        }

        private static boolean among(long n, long least, long most) {
            return n >= least && n <= most;
        }

        private static boolean isPlace(long x, long y) {
            return among(x, -FAR, FAR) && among(y, -FAR, FAR);
        }

        long rule(int kind, int classA, int classB, int layer, long v) {
            if (!among(kind, 0, 5) || !among(classA, -1, classes - 1) || !among(classB, -1, classes - 1)
                    || !among(layer, -1, 7)) {
                return OUT;
            }
            if (!among(v, 0, 1_000_000)) {
                return ILLEGAL;
            }
            if (rules.size() == 40) {
                return -1;
            }
            ModelRule r = new ModelRule();
            r.number = rules.size();
            r.kind = kind;
            r.classA = classA;
            r.classB = classB;
            r.layer = layer;
            r.value = v;
            rules.add(r);
            kept.keySet().removeIf(key -> key.kind() == kind);
            return r.number;
        }

        long rank(int rule, int r) {
            if (!among(rule, 0, rules.size() - 1)) {
                return OUT;
            }
            if (!among(r, -1000, 1000)) {
                return ILLEGAL;
            }
            ModelRule row = rules.get(rule);
            boolean other = row.rank != r;
            row.rank = r;
            if (other) {
                kept.keySet().removeIf(key -> key.kind() == row.kind);
            }
            return other ? 1 : 0;
        }

        long area(long x0, long y0, long x1, long y1) {
            if (!isPlace(x0, y0) || !isPlace(x1, y1) || x0 > x1 || y0 > y1) {
                return ILLEGAL;
            }
            if (areas.size() == 12) {
                return -1;
            }
            areas.add(new long[] {x0, y0, x1, y1});
            return areas.size() - 1;
        }

        long inArea(int rule, int area) {
            if (!among(rule, 0, rules.size() - 1) || !among(area, -1, areas.size() - 1)) {
                return OUT;
            }
            ModelRule row = rules.get(rule);
            boolean other = row.area != area;
            row.area = area;
            if (other) {
                kept.keySet().removeIf(key -> key.kind() == row.kind);
            }
            return other ? 1 : 0;
        }

        long thing(int cls, int layer, long x, long y) {
            if (!among(cls, 0, classes - 1) || !among(layer, 0, 7)) {
                return OUT;
            }
            if (!isPlace(x, y)) {
                return ILLEGAL;
            }
            if (things.size() == 40) {
                return -1;
            }
            things.add(new long[] {cls, layer, x, y});
            return things.size() - 1;
        }

        long make(int thing, int cls, int layer) {
            if (!isThing(thing) || !among(cls, 0, classes - 1) || !among(layer, 0, 7)) {
                return OUT;
            }
            long[] row = things.get(thing);
            boolean other = row[0] != cls || row[1] != layer;
            row[0] = cls;
            row[1] = layer;
            if (other) {
                dropThing(thing);
            }
            return other ? 1 : 0;
        }

        long move(int thing, long x, long y) {
            if (!isThing(thing)) {
                return OUT;
            }
            if (!isPlace(x, y)) {
                return ILLEGAL;
            }
            long[] row = things.get(thing);
            boolean crosses = false;
            for (int area = 0; area < areas.size(); area++) {
                crosses |= lies(area, row[2], row[3]) != lies(area, x, y);
            }
            boolean other = row[2] != x || row[3] != y;
            row[2] = x;
            row[3] = y;
            if (crosses) {
                dropThing(thing);
            }
            return other ? 1 : 0;
        }

        private void dropThing(int thing) {
            kept.keySet().removeIf(key -> key.low() == thing || key.high() == thing);
        }

        private boolean isThing(int thing) {
            return among(thing, 0, things.size() - 1);
        }

        private boolean asks(int kind, int a, int b) {
            return among(kind, 0, 5) && isThing(a) && isThing(b);
        }

        private boolean lies(int area, long x, long y) {
            long[] r = areas.get(area);
            return among(x, r[0], r[2]) && among(y, r[1], r[3]);
        }

        /** 0, when it matches. */
        private int reason(ModelRule r, int kind, int a, int b) {
            long[] s = things.get(a);
            long[] t = things.get(b);
            if (r.kind != kind) {
                return 1;
            }
            boolean straight = (r.classA == -1 || r.classA == s[0]) && (r.classB == -1 || r.classB == t[0]);
            boolean round = (r.classA == -1 || r.classA == t[0]) && (r.classB == -1 || r.classB == s[0]);
            if (!straight && !round) {
                return 2;
            }
            if (r.layer != -1 && (s[1] != r.layer || t[1] != r.layer)) {
                return 3;
            }
            if (r.area != -1 && (!lies(r.area, s[2], s[3]) || !lies(r.area, t[2], t[3]))) {
                return 4;
            }
            return 0;
        }

        private List<ModelRule> matching(int kind, int a, int b) {
            List<ModelRule> found = new ArrayList<>();
            for (ModelRule r : rules) {
                if (reason(r, kind, a, b) == 0) {
                    found.add(r);
                }
            }
            found.sort((r, s) -> r.rank != s.rank ? s.rank - r.rank : s.number - r.number);
            return found;
        }

        private int first(int kind, int a, int b) {
            List<ModelRule> found = matching(kind, a, b);
            return found.isEmpty() ? -1 : found.get(0).number;
        }

        long winner(int kind, int a, int b) {
            if (!asks(kind, a, b)) {
                return OUT;
            }
            Key key = new Key(kind, Math.min(a, b), Math.max(a, b));
            if (kept.containsKey(key)) {
                spared++;
            }
            kept.put(key, first(kind, a, b));
            return kept.get(key);
        }

        long value(int kind, int a, int b) {
            long number = winner(kind, a, b);
            return number < 0 ? number : rules.get((int) number).value;
        }

        long listed(int kind, int a, int b, int k) {
            if (!asks(kind, a, b)) {
                return OUT;
            }
            List<ModelRule> found = matching(kind, a, b);
            return among(k, 0, found.size() - 1) ? found.get(k).number : -1;
        }

        long why(int kind, int a, int b, int rule) {
            if (!asks(kind, a, b) || !among(rule, 0, rules.size() - 1)) {
                return OUT;
            }
            int reason = reason(rules.get(rule), kind, a, b);
            int best = first(kind, a, b);
            if (reason != 0 || best == rule) {
                return reason;
            }
            return rules.get(rule).rank < rules.get(best).rank ? 5 : 6;
        }

        long greatest(int kind, int layer) {
            if (!among(kind, 0, 5) || !among(layer, 0, 7)) {
                return OUT;
            }
            return rules.stream().filter(r -> r.kind == kind && (r.layer == -1 || r.layer == layer))
                    .mapToLong(r -> r.value).max().orElse(-1);
        }

        long close(int kind) {
            if (!among(kind, 0, 5)) {
                return OUT;
            }
            pairs.clear();
            for (int a = 0; a < things.size(); a++) {
                for (int b = a + 1; b < things.size(); b++) {
                    long[] s = things.get(a);
                    long[] t = things.get(b);
                    int best = s[1] == t[1] ? first(kind, a, b) : -1;
                    long v = best < 0 ? 0 : rules.get(best).value;
                    if ((s[2] - t[2]) * (s[2] - t[2]) + (s[3] - t[3]) * (s[3] - t[3]) < v * v) {
                        pairs.add(new int[] {a, b});
                    }
                }
            }
            return pairs.size();
        }

        long pair(int k, int which) {
            if (!among(which, 0, 1)) {
                return OUT;
            }
            return among(k, 0, pairs.size() - 1) ? pairs.get(k)[which] : -1;
        }
    }
}
