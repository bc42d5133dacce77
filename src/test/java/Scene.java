import java.util.Arrays;
import java.util.function.ToLongFunction;

/**
 * Objects in a known state, and all that later calls show of one. A call that must change nothing is
 * made on such an object, which must then show what a like one shows on which it was not made.
 */
enum Scene {
    NEW(0, 0, 0),
    SOME(7, 3, 5),
    FULL(40, 12, 40);

    static final int CLASSES = 3;
    private static final int NONE = RuleChoice.NONE;
    private static final int[] KINDS = {0, 1, 5};
    /** What the document allows an object, less the one call that is looked at. */
    private static final int MOST_CALLS = 511;
    private static final long THREW = Long.MIN_VALUE;

    final int rules;
    final int areas;
    final int things;
    private long[] untouched;

    Scene(int rules, int areas, int things) {
        this.rules = rules;
        this.areas = areas;
        this.things = things;
    }

    interface Act {
        void on(RuleChoice x);
    }

    /** The call throws an IndexOutOfBoundsException and changes nothing. */
    void outOfBounds(String call, Act act) {
        changesNothing(call, x -> Check.outOfBounds(call + " on " + this, () -> act.on(x)));
    }

    /** The call throws an IllegalArgumentException and changes nothing. */
    void illegal(String call, Act act) {
        changesNothing(call, x -> Check.illegal(call + " on " + this, () -> act.on(x)));
    }

    /** The call answers so and changes nothing. */
    void answers(String call, long want, ToLongFunction<RuleChoice> act) {
        changesNothing(call, x -> Check.due(call + " on " + this, act.applyAsLong(x), want));
    }

    private void changesNothing(String call, Act act) {
        if (untouched == null) {
            untouched = shown(x -> { });
        }
        int at = Arrays.mismatch(shown(act), untouched);
        Check.due("the first later call that shows " + call + " on " + this, at, -1);
    }

    private long[] shown(Act act) {
        Log log = new Log(new RuleChoice(CLASSES));
        build(log);
        int built = log.count;
        act.on(log.x);
        look(log);
        return Arrays.copyOfRange(log.answers, built, log.count);
    }

    private void build(Log log) {
        for (int i = 0; i < areas; i++) {
            int n = i;
            log.call(x -> x.area(n - 10, -10, 4L * n, 10));
        }
        for (int i = 0; i < rules; i++) {
            int n = i;
            log.call(x -> x.rule(KINDS[n % 3], n % 4 - 1, n / 2 % 4 - 1, n % 3 - 1, 3L * n));
            if (rankOf(n) != 0) {
                log.call(x -> bit(x.rank(n, rankOf(n))));
            }
            if (areaOf(n) != NONE) {
                log.call(x -> bit(x.inArea(n, areaOf(n))));
            }
        }
        for (int i = 0; i < things; i++) {
            int n = i;
            log.call(x -> x.thing(n % CLASSES, n % 2, placeOf(n), n % 5));
        }
        log.call(x -> x.winner(0, 0, things - 1));
        log.call(x -> x.winner(5, 0, 0));
        log.call(x -> x.value(1, things - 1, things - 1));
        log.call(x -> x.winner(1, things - 1, things - 1));
        log.call(x -> x.close(0));
    }

    private int rankOf(int rule) {
        return rule % 2 == 0 ? 0 : rule % 5 - 2;
    }

    private int areaOf(int rule) {
        return rule % 3 == 2 ? rule % areas : NONE;
    }

    private static long placeOf(int thing) {
        return 4L * thing - 6;
    }

    private void look(Log log) {
        counts(log);
        pairs(log);
        for (int kind : KINDS) {
            for (int layer : new int[] {0, 1, 7}) {
                log.call(x -> x.greatest(kind, layer));
            }
            for (int k = 0; k < 3; k++) {
                int n = k;
                log.call(x -> x.listed(kind, 0, 0, n));
                log.call(x -> x.listed(kind, 0, things - 1, n));
            }
            log.call(x -> x.winner(kind, 0, 0));
            log.call(x -> x.winner(kind, things - 1, 0));
            log.call(x -> x.value(kind, things - 1, things - 1));
            counts(log);
        }
        tellAgain(log);
        counts(log);
        log.call(x -> x.close(1));
        pairs(log);
        log.call(x -> x.rule(0, NONE, NONE, NONE, 7));
        log.call(x -> x.area(0, 0, 0, 0));
        log.call(x -> x.thing(0, 0, 0, 0));
        counts(log);
    }

    private static void counts(Log log) {
        log.call(RuleChoice::kept);
        log.call(RuleChoice::spared);
    }

    private static void pairs(Log log) {
        for (int k = 0; k < 4; k++) {
            int n = k;
            log.call(x -> x.pair(n, 0));
            log.call(x -> x.pair(n, 1));
        }
    }

    /** Each of these answers whether what it tells is another than what there is. */
    private void tellAgain(Log log) {
        for (int i = 0; i < rules; i++) {
            int n = i;
            log.call(x -> x.why(0, 0, 0, n));
            log.call(x -> bit(x.rank(n, rankOf(n))));
            log.call(x -> bit(x.inArea(n, areaOf(n))));
        }
        for (int i = 0; i < things; i++) {
            int n = i;
            log.call(x -> bit(x.make(n, n % CLASSES, n % 2)));
            log.call(x -> bit(x.move(n, placeOf(n), n % 5)));
        }
    }

    private static long bit(boolean b) {
        return b ? 1 : 0;
    }

    /** Makes calls on one object and keeps their answers. */
    private static final class Log {
        final RuleChoice x;
        final long[] answers = new long[MOST_CALLS];
        int count;

        Log(RuleChoice x) {
            this.x = x;
        }

        void call(ToLongFunction<RuleChoice> call) {
            answers[count++] = answerOf(call);
        }

        private long answerOf(ToLongFunction<RuleChoice> call) {
            try {
                return call.applyAsLong(x);
            } catch (IndexOutOfBoundsException e) {
                return THREW;
            }
        }
    }
}
