/**
 * Which rule wins for two things: rules of kinds, between classes, on layers, in areas, by ranks.
 * Answers are kept by kind and things until what they hang on changes.
 *
 * <p>Every call looks at all its arguments before it changes anything, so a call that throws
 * leaves the object as it was.
 */
public final class RuleChoice {
    /** There is none; any. */
    public static final int NONE = -1;

    private static final int MOST_CLASSES = 16;
    private static final int LAYERS = 8;
    private static final int KINDS = 6;
    private static final int MOST_RULES = 40;
    private static final int MOST_AREAS = 12;
    private static final int MOST_THINGS = 40;
    private static final int MOST_RANK = 1_000;
    private static final long MOST_VALUE = 1_000_000L;
    private static final long FARTHEST = 1_000_000L;

    private static final int IS_WINNER = 0;
    private static final int OTHER_KIND = 1;
    private static final int OTHER_CLASSES = 2;
    private static final int OTHER_LAYER = 3;
    private static final int OUTSIDE_AREA = 4;
    private static final int LOWER_RANK = 5;
    private static final int TOLD_EARLIER = 6;

    private final int classes;
    private final Rule[] rules;
    private final Area[] areas;
    private final Thing[] things;
    private final Answers answers;
    private final Pairs nearPairs;
    private int ruleCount;
    private int areaCount;
    private int thingCount;
    private long sparedCount;

    /** All rows are made here, so that no row is ever null and no later call makes an object. */
    public RuleChoice(int classes) {
        this.classes = Math.max(1, Math.min(MOST_CLASSES, classes));
        rules = new Rule[MOST_RULES];
        for (int i = 0; i < MOST_RULES; i++) {
            rules[i] = new Rule();
        }
        areas = new Area[MOST_AREAS];
        for (int i = 0; i < MOST_AREAS; i++) {
            areas[i] = new Area();
        }
        things = new Thing[MOST_THINGS];
        for (int i = 0; i < MOST_THINGS; i++) {
            things[i] = new Thing();
        }
        answers = new Answers();
        nearPairs = new Pairs();
    }

    public int rule(int kind, int classA, int classB, int layer, long v)
            throws IndexOutOfBoundsException, IllegalArgumentException {
        needKind(kind);
        needClassOrNone(classA);
        needClassOrNone(classB);
        needLayerOrNone(layer);
        needValue(v);
        if (ruleCount >= MOST_RULES) {
            return NONE;
        }
        rules[ruleCount].tell(kind, classA, classB, layer, v);
        answers.dropKind(kind);
        return ruleCount++;
    }

    public boolean rank(int rule, int r) throws IndexOutOfBoundsException, IllegalArgumentException {
        needRule(rule);
        needRank(r);
        Rule row = rules[rule];
        if (row.rank == r) {
            return false;
        }
        row.rank = r;
        answers.dropKind(row.kind);
        return true;
    }

    public int area(long x0, long y0, long x1, long y1) throws IllegalArgumentException {
        needPlace(x0, y0);
        needPlace(x1, y1);
        needUnturned(x0, y0, x1, y1);
        if (areaCount >= MOST_AREAS) {
            return NONE;
        }
        areas[areaCount].span(x0, y0, x1, y1);
        return areaCount++;
    }

    public boolean inArea(int rule, int area) throws IndexOutOfBoundsException {
        needRule(rule);
        needAreaOrNone(area);
        Rule row = rules[rule];
        if (row.area == area) {
            return false;
        }
        row.area = area;
        answers.dropKind(row.kind);
        return true;
    }

    public int thing(int cls, int layer, long x, long y)
            throws IndexOutOfBoundsException, IllegalArgumentException {
        needClass(cls);
        needLayer(layer);
        needPlace(x, y);
        if (thingCount >= MOST_THINGS) {
            return NONE;
        }
        Thing row = things[thingCount];
        row.become(cls, layer);
        row.put(x, y);
        return thingCount++;
    }

    public boolean make(int thing, int cls, int layer) throws IndexOutOfBoundsException {
        needThing(thing);
        needClass(cls);
        needLayer(layer);
        Thing row = things[thing];
        if (row.cls == cls && row.layer == layer) {
            return false;
        }
        row.become(cls, layer);
        answers.dropThing(thing);
        return true;
    }

    public boolean move(int thing, long x, long y)
            throws IndexOutOfBoundsException, IllegalArgumentException {
        needThing(thing);
        needPlace(x, y);
        Thing row = things[thing];
        if (row.x == x && row.y == y) {
            return false;
        }
        if (areasAround(row.x, row.y) != areasAround(x, y)) {
            answers.dropThing(thing);
        }
        row.put(x, y);
        return true;
    }

    public int winner(int kind, int a, int b) throws IndexOutOfBoundsException {
        needKindAndThings(kind, a, b);
        return keptWinner(kind, a, b);
    }

    public long value(int kind, int a, int b) throws IndexOutOfBoundsException {
        needKindAndThings(kind, a, b);
        return valueOf(keptWinner(kind, a, b));
    }

    public int listed(int kind, int a, int b, int k) throws IndexOutOfBoundsException {
        needKindAndThings(kind, a, b);
        if (k < 0 || k >= ruleCount) {
            return NONE;
        }
        int found = bestBelow(NONE, kind, things[a], things[b]);
        for (int i = 0; i < k && found != NONE; i++) {
            found = bestBelow(found, kind, things[a], things[b]);
        }
        return found;
    }

    public int why(int kind, int a, int b, int rule) throws IndexOutOfBoundsException {
        needKindAndThings(kind, a, b);
        needRule(rule);
        int reason = hindrance(rules[rule], kind, things[a], things[b]);
        if (reason != IS_WINNER) {
            return reason;
        }
        int best = bestBelow(NONE, kind, things[a], things[b]);
        if (best == NONE || best == rule) {
            return IS_WINNER;
        }
        return rules[rule].rank < rules[best].rank ? LOWER_RANK : TOLD_EARLIER;
    }

    public long greatest(int kind, int layer) throws IndexOutOfBoundsException {
        needKind(kind);
        needLayer(layer);
        long most = NONE;
        for (int i = 0; i < ruleCount; i++) {
            if (rules[i].kind == kind && rules[i].isForLayer(layer)) {
                most = Math.max(most, rules[i].value);
            }
        }
        return most;
    }

    public int close(int kind) throws IndexOutOfBoundsException {
        needKind(kind);
        nearPairs.clear();
        for (int a = 0; a < thingCount; a++) {
            for (int b = a + 1; b < thingCount; b++) {
                if (areTooNear(kind, things[a], things[b])) {
                    nearPairs.add(a, b);
                }
            }
        }
        return nearPairs.count;
    }

    public int pair(int k, int which) throws IndexOutOfBoundsException {
        needSide(which);
        if (k < 0 || k >= nearPairs.count) {
            return NONE;
        }
        return which == 0 ? nearPairs.lower[k] : nearPairs.other[k];
    }

    public int kept() {
        return answers.count;
    }

    public long spared() {
        return sparedCount;
    }

    private int keptWinner(int kind, int a, int b) {
        if (answers.has(kind, a, b)) {
            sparedCount++;
            return answers.read(kind, a, b);
        }
        int best = bestBelow(NONE, kind, things[a], things[b]);
        answers.keep(kind, a, b, best);
        return best;
    }

    private long valueOf(int rule) {
        return rule == NONE ? NONE : rules[rule].value;
    }

    /** The best rule that matches among those that the rule 'upper' beats; of all, when it is NONE. */
    private int bestBelow(int upper, int kind, Thing a, Thing b) {
        int best = NONE;
        for (int i = 0; i < ruleCount; i++) {
            boolean better = (upper == NONE || beats(upper, i)) && (best == NONE || beats(i, best));
            if (better && hindrance(rules[i], kind, a, b) == IS_WINNER) {
                best = i;
            }
        }
        return best;
    }

    private boolean beats(int rule, int other) {
        int rank = rules[rule].rank;
        int otherRank = rules[other].rank;
        return rank > otherRank || (rank == otherRank && rule > other);
    }

    /** Why a rule does not match; IS_WINNER, when it does (nothing but a better rule hinders it). */
    private int hindrance(Rule rule, int kind, Thing a, Thing b) {
        if (rule.kind != kind) {
            return OTHER_KIND;
        }
        if (!rule.isBetween(a.cls, b.cls)) {
            return OTHER_CLASSES;
        }
        if (!rule.isForLayer(a.layer) || !rule.isForLayer(b.layer)) {
            return OTHER_LAYER;
        }
        if (rule.area != NONE && !(areas[rule.area].holds(a.x, a.y) && areas[rule.area].holds(b.x, b.y))) {
            return OUTSIDE_AREA;
        }
        return IS_WINNER;
    }

    /** The areas in which a place lies, a bit for each. */
    private int areasAround(long x, long y) {
        int around = 0;
        for (int i = 0; i < areaCount; i++) {
            if (areas[i].holds(x, y)) {
                around |= 1 << i;
            }
        }
        return around;
    }

    /** Asks past the kept answers: close() neither keeps one nor counts as spared. */
    private boolean areTooNear(int kind, Thing a, Thing b) {
        if (a.layer != b.layer) {
            return false;
        }
        int best = bestBelow(NONE, kind, a, b);
        if (best == NONE) {
            return false;
        }
        long least = rules[best].value;
        long dx = a.x - b.x;
        long dy = a.y - b.y;
        return dx * dx + dy * dy < least * least;
    }

    private void needKindAndThings(int kind, int a, int b) {
        needKind(kind);
        needThing(a);
        needThing(b);
    }

    private void needKind(int kind) {
        if (kind < 0 || kind >= KINDS) {
            throw new IndexOutOfBoundsException("no such kind");
        }
    }

    private void needClass(int cls) {
        if (cls < 0 || cls >= classes) {
            throw new IndexOutOfBoundsException("no such class");
        }
    }

    private void needClassOrNone(int cls) {
        if (cls != NONE) {
            needClass(cls);
        }
    }

    private void needLayer(int layer) {
        if (layer < 0 || layer >= LAYERS) {
            throw new IndexOutOfBoundsException("no such layer");
        }
    }

    private void needLayerOrNone(int layer) {
        if (layer != NONE) {
            needLayer(layer);
        }
    }

    private void needRule(int rule) {
        if (rule < 0 || rule >= ruleCount) {
            throw new IndexOutOfBoundsException("no such rule");
        }
    }

    private void needAreaOrNone(int area) {
        if (area != NONE && (area < 0 || area >= areaCount)) {
            throw new IndexOutOfBoundsException("no such area");
        }
    }

    private void needThing(int thing) {
        if (thing < 0 || thing >= thingCount) {
            throw new IndexOutOfBoundsException("no such thing");
        }
    }

    private void needSide(int which) {
        if (which != 0 && which != 1) {
            throw new IndexOutOfBoundsException("which is 0 or 1");
        }
    }

    private void needValue(long v) {
        if (v < 0 || v > MOST_VALUE) {
            throw new IllegalArgumentException("no value");
        }
    }

    private void needRank(int r) {
        if (r < -MOST_RANK || r > MOST_RANK) {
            throw new IllegalArgumentException("no rank");
        }
    }

    private void needPlace(long x, long y) {
        if (x < -FARTHEST || x > FARTHEST || y < -FARTHEST || y > FARTHEST) {
            throw new IllegalArgumentException("no place");
        }
    }

    private void needUnturned(long x0, long y0, long x1, long y1) {
        if (x0 > x1 || y0 > y1) {
            throw new IllegalArgumentException("the area is turned");
        }
    }

    private static final class Rule {
        int kind;
        int classA;
        int classB;
        int layer;
        long value;
        int rank;
        int area = NONE;

        void tell(int kind, int classA, int classB, int layer, long value) {
            this.kind = kind;
            this.classA = classA;
            this.classB = classB;
            this.layer = layer;
            this.value = value;
        }

        boolean isBetween(int cls, int otherCls) {
            return (fits(classA, cls) && fits(classB, otherCls))
                    || (fits(classA, otherCls) && fits(classB, cls));
        }

        boolean isForLayer(int ofLayer) {
            return fits(layer, ofLayer);
        }

        private static boolean fits(int wanted, int given) {
            return wanted == NONE || wanted == given;
        }
    }

    private static final class Area {
        long x0;
        long y0;
        long x1;
        long y1;

        void span(long fromX, long fromY, long toX, long toY) {
            x0 = fromX;
            y0 = fromY;
            x1 = toX;
            y1 = toY;
        }

        boolean holds(long x, long y) {
            return x0 <= x && x <= x1 && y0 <= y && y <= y1;
        }
    }

    private static final class Thing {
        int cls;
        int layer;
        long x;
        long y;

        void become(int newCls, int newLayer) {
            cls = newCls;
            layer = newLayer;
        }

        void put(long newX, long newY) {
            x = newX;
            y = newY;
        }
    }

    /** The kept answers; those of one kind stand together, one slot for each two things. */
    private static final class Answers {
        private static final int SLOTS_A_KIND = MOST_THINGS * (MOST_THINGS + 1) / 2;
        /** A slot holds its answer raised by this, so that 0, which a new row holds, means empty. */
        private static final int RAISE = 2;

        final int[] slots = new int[KINDS * SLOTS_A_KIND];
        int count;

        boolean has(int kind, int a, int b) {
            return slots[slotOf(kind, a, b)] != 0;
        }

        int read(int kind, int a, int b) {
            return slots[slotOf(kind, a, b)] - RAISE;
        }

        void keep(int kind, int a, int b, int answer) {
            int slot = slotOf(kind, a, b);
            if (slots[slot] == 0) {
                count++;
            }
            slots[slot] = answer + RAISE;
        }

        void dropKind(int kind) {
            int first = kind * SLOTS_A_KIND;
            for (int slot = first; slot < first + SLOTS_A_KIND; slot++) {
                drop(slot);
            }
        }

        void dropThing(int thing) {
            for (int kind = 0; kind < KINDS; kind++) {
                for (int other = 0; other < MOST_THINGS; other++) {
                    drop(slotOf(kind, thing, other));
                }
            }
        }

        private void drop(int slot) {
            if (slots[slot] != 0) {
                slots[slot] = 0;
                count--;
            }
        }

        /** The same slot either way round: a row for the higher number, in it a slot for the lower. */
        private static int slotOf(int kind, int a, int b) {
            int high = Math.max(a, b);
            int low = Math.min(a, b);
            return kind * SLOTS_A_KIND + high * (high + 1) / 2 + low;
        }
    }

    /** Pairs of different things, in the order in which they were added. */
    private static final class Pairs {
        private static final int MOST_PAIRS = MOST_THINGS * (MOST_THINGS - 1) / 2;

        final int[] lower = new int[MOST_PAIRS];
        final int[] other = new int[MOST_PAIRS];
        int count;

        void clear() {
            count = 0;
        }

        void add(int low, int high) {
            if (count < MOST_PAIRS) {
                lower[count] = low;
                other[count] = high;
                count++;
            }
        }
    }
}
