/** Promises 9 to 15: winner, value, listed, why, greatest, close, pair. */
public final class AnswersTest {
    private static final int NONE = RuleChoice.NONE;
    private static final int MIN = Integer.MIN_VALUE;
    private static final int MAX = Integer.MAX_VALUE;
    private static final int[] NO_KINDS = {-1, 6, MIN, MAX};

    public static void main(String[] args) {
        classesEitherWayRound();
        oneThingTwice();
        layers();
        areas();
        ranks();
        value();
        listed();
        why();
        whyTellsTheFirst();
        greatest();
        closeAtItsEdge();
        closeAsksTheWinner();
        closeOfAll();
        pair();
        wrongInputs();
        Check.end("AnswersTest");
    }

    private static void classesEitherWayRound() {
        RuleChoice x = new RuleChoice(4);
        for (int cls = 0; cls < 4; cls++) {
            x.thing(cls, 0, 0, 0);
        }
        x.rule(0, 0, 1, NONE, 1);
        x.rule(1, 2, NONE, NONE, 1);
        x.rule(2, NONE, 2, NONE, 1);
        x.rule(3, NONE, NONE, NONE, 1);
        for (int a = 0; a < 4; a++) {
            for (int b = 0; b < 4; b++) {
                String text = "(" + a + ", " + b + ")";
                boolean zeroAndOne = (a == 0 && b == 1) || (a == 1 && b == 0);
                Check.due("winner of 0 and 1 for " + text, x.winner(0, a, b), zeroAndOne ? 0 : NONE);
                boolean aTwo = a == 2 || b == 2;
                Check.due("winner of 2 and any for " + text, x.winner(1, a, b), aTwo ? 1 : NONE);
                Check.due("winner of any and 2 for " + text, x.winner(2, a, b), aTwo ? 2 : NONE);
                Check.due("winner of any for " + text, x.winner(3, a, b), 3);
                Check.due("winner of a kind without rules for " + text, x.winner(4, a, b), NONE);
            }
        }
    }

    private static void oneThingTwice() {
        RuleChoice x = new RuleChoice(3);
        x.thing(1, 0, 0, 0);
        x.rule(0, 1, 2, NONE, 1);
        Check.due("one thing is not of two classes", x.winner(0, 0, 0), NONE);
        x.rule(0, 1, 1, NONE, 1);
        Check.due("one thing is of one class twice", x.winner(0, 0, 0), 1);
    }

    private static void layers() {
        RuleChoice x = new RuleChoice(1);
        x.thing(0, 2, 0, 0);
        x.thing(0, 2, 0, 0);
        x.thing(0, 3, 0, 0);
        x.rule(0, NONE, NONE, 2, 1);
        x.rule(1, NONE, NONE, NONE, 1);
        Check.due("both on the layer", x.winner(0, 0, 1), 0);
        Check.due("the second one not on the layer", x.winner(0, 0, 2), NONE);
        Check.due("the first one not on the layer", x.winner(0, 2, 1), NONE);
        Check.due("none on the layer", x.winner(0, 2, 2), NONE);
        Check.due("any layer, two of them", x.winner(1, 0, 2), 1);
    }

    private static void areas() {
        RuleChoice x = new RuleChoice(1);
        x.thing(0, 0, 0, 0);
        x.thing(0, 0, 5, 5);
        x.thing(0, 0, 6, 5);
        x.area(0, 0, 5, 5);
        x.area(6, 0, 9, 9);
        x.rule(0, NONE, NONE, NONE, 1);
        Check.due("no area yet", x.winner(0, 0, 2), 0);
        x.inArea(0, 0);
        Check.due("both in the area", x.winner(0, 0, 1), 0);
        Check.due("the second one outside", x.winner(0, 0, 2), NONE);
        Check.due("the first one outside", x.winner(0, 2, 1), NONE);
        x.inArea(0, 1);
        Check.due("in the other area", x.winner(0, 2, 2), 0);
        Check.due("not in the other area", x.winner(0, 0, 1), NONE);
        x.inArea(0, NONE);
        Check.due("no area again", x.winner(0, 0, 2), 0);
    }

    private static void ranks() {
        RuleChoice x = new RuleChoice(1);
        x.thing(0, 0, 0, 0);
        for (int i = 0; i < 4; i++) {
            x.rule(0, NONE, NONE, NONE, 10 - i);
        }
        Check.due("of the same rank the one told last", x.winner(0, 0, 0), 3);
        x.rank(1, 5);
        Check.due("the greatest rank", x.winner(0, 0, 0), 1);
        x.rank(0, 5);
        Check.due("told last, not ranked last", x.winner(0, 0, 0), 1);
        x.rank(2, 6);
        Check.due("a greater rank", x.winner(0, 0, 0), 2);
        x.rank(2, -1000);
        x.rank(1, -3);
        x.rank(0, -2);
        x.rank(3, -2);
        Check.due("ranks below 0", x.winner(0, 0, 0), 3);
        x.rule(1, NONE, NONE, NONE, 1);
        x.rank(4, 1000);
        Check.due("a rank of another kind", x.winner(0, 0, 0), 3);
    }

    private static void value() {
        RuleChoice x = new RuleChoice(1);
        x.thing(0, 0, 0, 0);
        Check.due("value without a winner", x.value(0, 0, 0), NONE);
        x.rule(0, NONE, NONE, NONE, 0);
        Check.due("value 0", x.value(0, 0, 0), 0);
        x.rule(0, NONE, NONE, NONE, 1_000_000);
        Check.due("the greatest value", x.value(0, 0, 0), 1_000_000);
        x.rank(0, 1);
        Check.due("value of the winner, not the greatest one", x.value(0, 0, 0), 0);
    }

    private static void listed() {
        RuleChoice x = new RuleChoice(2);
        x.thing(0, 0, 0, 0);
        x.thing(1, 0, 0, 0);
        Check.due("listed without rules", x.listed(0, 0, 1, 0), NONE);
        int[] ranks = {0, 7, -4, 7, 0, 1000};
        for (int i = 0; i < ranks.length; i++) {
            x.rule(0, NONE, NONE, NONE, i);
            x.rank(i, ranks[i]);
        }
        x.rule(1, NONE, NONE, NONE, 9);
        x.rule(0, 0, 0, NONE, 9);
        int[] order = {5, 3, 1, 4, 0, 2, NONE, NONE, NONE};
        for (int k = 0; k < order.length; k++) {
            Check.due("listed, k " + k, x.listed(0, 0, 1, k), order[k]);
            Check.due("listed the other way round, k " + k, x.listed(0, 1, 0, k), order[k]);
        }
        Check.due("listed, k -1", x.listed(0, 0, 1, -1), NONE);
        Check.due("listed, least k", x.listed(0, 0, 1, MIN), NONE);
        Check.due("listed, greatest k", x.listed(0, 0, 1, MAX), NONE);
        Check.due("listed of one thing twice has one more", x.listed(0, 0, 0, 6), 2);
        Check.due("listed keeps nothing", x.kept(), 0);
        listedOfForty();
    }

    private static void listedOfForty() {
        RuleChoice x = new RuleChoice(1);
        x.thing(0, 0, 0, 0);
        for (int i = 0; i < 40; i++) {
            x.rule(0, NONE, NONE, NONE, i);
        }
        for (int k = 0; k < 40; k++) {
            Check.due("listed of forty, k " + k, x.listed(0, 0, 0, k), 39 - k);
        }
        Check.due("listed of forty, k 40", x.listed(0, 0, 0, 40), NONE);
    }

    private static void why() {
        RuleChoice x = new RuleChoice(2);
        x.area(0, 0, 1, 1);
        x.thing(0, 0, 0, 0);
        x.thing(0, 0, 2, 0);
        x.rule(1, NONE, NONE, NONE, 1);
        x.rule(0, 0, 1, NONE, 1);
        x.rule(0, NONE, NONE, 1, 1);
        x.rule(0, NONE, NONE, NONE, 1);
        x.inArea(3, 0);
        x.rule(0, NONE, NONE, NONE, 1);
        x.rank(4, -1);
        x.rule(0, NONE, NONE, NONE, 1);
        x.rule(0, NONE, NONE, NONE, 1);
        int[] reasons = {1, 2, 3, 4, 5, 6, 0};
        for (int r = 0; r < reasons.length; r++) {
            Check.due("why, rule " + r, x.why(0, 0, 1, r), reasons[r]);
            Check.due("why the other way round, rule " + r, x.why(0, 1, 0, r), reasons[r]);
        }
        Check.due("why keeps nothing", x.kept(), 0);
        x.winner(0, 0, 1);
        x.why(0, 0, 1, 6);
        Check.due("why is not spared", x.spared(), 0);
        x.rank(4, 1);
        Check.due("why, told earlier but ranked above", x.why(0, 0, 1, 4), 0);
        Check.due("why, told later but ranked below", x.why(0, 0, 1, 6), 5);
    }

    private static void whyTellsTheFirst() {
        RuleChoice x = new RuleChoice(2);
        x.area(5, 5, 6, 6);
        x.thing(0, 0, 0, 0);
        x.rule(0, 1, 1, 1, 1);
        x.inArea(0, 0);
        x.rank(0, -1);
        x.rule(0, NONE, NONE, NONE, 1);
        Check.due("all is so: the kind", x.why(1, 0, 0, 0), 1);
        Check.due("all but the kind: the classes", x.why(0, 0, 0, 0), 2);
        x.make(0, 1, 0);
        Check.due("then the layer", x.why(0, 0, 0, 0), 3);
        x.make(0, 1, 1);
        Check.due("then the area", x.why(0, 0, 0, 0), 4);
        x.move(0, 5, 6);
        Check.due("then the rank", x.why(0, 0, 0, 0), 5);
        x.rank(0, 0);
        Check.due("then that it was told earlier", x.why(0, 0, 0, 0), 6);
        x.rank(0, 1);
        Check.due("then nothing", x.why(0, 0, 0, 0), 0);
    }

    private static void greatest() {
        RuleChoice x = new RuleChoice(1);
        Check.due("greatest without rules", x.greatest(0, 0), NONE);
        x.rule(0, NONE, NONE, 1, 30);
        x.rule(0, NONE, NONE, NONE, 20);
        x.rule(0, NONE, NONE, 1, 10);
        x.rule(1, NONE, NONE, 1, 99);
        x.rule(2, NONE, NONE, 7, 0);
        Check.due("greatest on its layer", x.greatest(0, 1), 30);
        Check.due("greatest of any layer", x.greatest(0, 0), 20);
        Check.due("greatest of another kind", x.greatest(1, 1), 99);
        Check.due("greatest of another layer alone", x.greatest(1, 0), NONE);
        Check.due("greatest value 0", x.greatest(2, 7), 0);
        x.rank(2, 1000);
        x.area(0, 0, 0, 0);
        x.inArea(0, 0);
        Check.due("greatest whatever the ranks and areas", x.greatest(0, 1), 30);
        for (int kind : NO_KINDS) {
            Check.outOfBounds("greatest(" + kind + ", 0)", () -> x.greatest(kind, 0));
        }
        for (int layer : new int[] {-1, 8, MIN, MAX}) {
            Check.outOfBounds("greatest(0, " + layer + ")", () -> x.greatest(0, layer));
        }
    }

    private static void closeAtItsEdge() {
        RuleChoice x = new RuleChoice(1);
        x.thing(0, 0, 0, 0);
        x.thing(0, 0, 3, 4);
        Check.due("close without rules", x.close(0), 0);
        x.rule(0, NONE, NONE, NONE, 5);
        Check.due("close at just its value", x.close(0), 0);
        x.move(1, 3, 3);
        Check.due("close below its value", x.close(0), 1);
        x.move(1, -3, 3);
        Check.due("close to the other side", x.close(0), 1);
        x.move(1, 5, 0);
        Check.due("close at its value in x", x.close(0), 0);
        x.move(1, 0, -4);
        Check.due("close below its value in y", x.close(0), 1);
        x.make(1, 0, 1);
        Check.due("close on two layers", x.close(0), 0);
        x.make(1, 0, 0);
        x.rule(0, NONE, NONE, NONE, 0);
        x.move(1, 0, 0);
        Check.due("close at one place with value 0", x.close(0), 0);
        x.rule(1, NONE, NONE, NONE, 1_000_000);
        x.move(0, -1_000_000, -1_000_000);
        x.move(1, 1_000_000, 1_000_000);
        Check.due("close at the farthest", x.close(1), 0);
        x.move(0, 0, 1_000_000);
        Check.due("close at just the greatest value", x.close(1), 0);
        x.move(0, 1, 1_000_000);
        Check.due("close below the greatest value", x.close(1), 1);
    }

    private static void closeAsksTheWinner() {
        RuleChoice x = new RuleChoice(1);
        x.thing(0, 0, 0, 0);
        x.thing(0, 0, 10, 0);
        x.rule(0, NONE, NONE, NONE, 5);
        x.rule(0, NONE, NONE, NONE, 20);
        Check.due("close by the winner", x.close(0), 1);
        x.rank(0, 1);
        Check.due("not close by the winner", x.close(0), 0);
        Check.due("close keeps nothing", x.kept(), 0);
        x.winner(0, 0, 1);
        Check.due("close with an answer kept", x.close(0), 0);
        Check.due("close drops nothing", x.kept(), 1);
        Check.due("close is not spared", x.spared(), 0);
    }

    private static void closeOfAll() {
        RuleChoice x = new RuleChoice(1);
        x.rule(3, NONE, NONE, NONE, 100);
        for (int i = 0; i < 40; i++) {
            x.thing(0, 4, i, 0);
        }
        Check.due("close of forty", x.close(3), 780);
        int k = 0;
        for (int a = 0; a < 40; a += 13) {
            for (int b = a + 1; b < 40; b += 9) {
                k = a * 40 - a * (a + 1) / 2 + b - a - 1;
                Check.due("lower of pair " + k, x.pair(k, 0), a);
                Check.due("other of pair " + k, x.pair(k, 1), b);
            }
        }
        Check.due("the last pair's lower", x.pair(779, 0), 38);
        Check.due("the last pair's other", x.pair(779, 1), 39);
        Check.due("after the last pair", x.pair(780, 0), NONE);
    }

    private static void pair() {
        RuleChoice x = new RuleChoice(1);
        x.rule(0, NONE, NONE, NONE, 2);
        long[] places = {10, 0, 11, 1, 9};
        for (long place : places) {
            x.thing(0, 0, place, 0);
        }
        Check.due("pair before close", x.pair(0, 1), NONE);
        Check.due("close", x.close(0), 3);
        int[][] pairs = {{0, 2}, {0, 4}, {1, 3}, {NONE, NONE}};
        for (int k = 0; k < pairs.length; k++) {
            Check.due("lower, k " + k, x.pair(k, 0), pairs[k][0]);
            Check.due("other, k " + k, x.pair(k, 1), pairs[k][1]);
        }
        Check.due("pair(-1, 0)", x.pair(-1, 0), NONE);
        Check.due("pair of the least k", x.pair(MIN, 1), NONE);
        Check.due("pair of the greatest k", x.pair(MAX, 1), NONE);
        for (int which : new int[] {-1, 2, MIN, MAX}) {
            Check.outOfBounds("pair(0, " + which + ")", () -> x.pair(0, which));
            Check.outOfBounds("pair(99, " + which + ")", () -> x.pair(99, which));
        }
        x.move(0, 500, 500);
        x.rule(0, NONE, NONE, NONE, 0);
        Check.outOfBounds("close(6)", () -> x.close(6));
        Check.due("as the latest close() found them", x.pair(1, 1), 4);
        Check.due("close of another kind", x.close(1), 0);
        Check.due("pair after a close without any", x.pair(0, 0), NONE);
    }

    private static void wrongInputs() {
        RuleChoice x = new RuleChoice(1);
        x.thing(0, 0, 0, 0);
        x.thing(0, 0, 0, 0);
        x.rule(0, NONE, NONE, NONE, 1);
        for (int kind : NO_KINDS) {
            refuse(x, kind, 0, 0);
            Check.outOfBounds("close(" + kind + ")", () -> x.close(kind));
        }
        for (int thing : new int[] {-1, 2, 40, MIN, MAX}) {
            refuse(x, 0, thing, 0);
            refuse(x, 0, 0, thing);
        }
        for (int rule : new int[] {-1, 1, 40, MIN, MAX}) {
            Check.outOfBounds("why, rule " + rule, () -> x.why(0, 0, 0, rule));
        }
        Check.due("kept after refused calls", x.kept(), 0);
        Check.due("spared after refused calls", x.spared(), 0);
    }

    private static void refuse(RuleChoice x, int kind, int a, int b) {
        String text = "(" + kind + ", " + a + ", " + b + ")";
        Check.outOfBounds("winner" + text, () -> x.winner(kind, a, b));
        Check.outOfBounds("value" + text, () -> x.value(kind, a, b));
        Check.outOfBounds("listed, k 0 " + text, () -> x.listed(kind, a, b, 0));
        Check.outOfBounds("listed, k -1 " + text, () -> x.listed(kind, a, b, -1));
        Check.outOfBounds("why " + text, () -> x.why(kind, a, b, 0));
    }
}
