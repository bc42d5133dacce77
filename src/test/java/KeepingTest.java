/** Promises 9, 10, 16, 17: what is kept, what drops it, what is spared. */
public final class KeepingTest {
    private static final int NONE = RuleChoice.NONE;

    public static void main(String[] args) {
        keepsByKindAndThings();
        keepsThatThereIsNone();
        ruleDropsItsKind();
        rankDropsItsKind();
        inAreaDropsItsKind();
        makeDropsTheThing();
        moveAcrossABorderDropsTheThing();
        moveBetweenAreasDrops();
        newAreaDropsNothing();
        newThingDropsNothing();
        keepsAll();
        Check.end("KeepingTest");
    }

    /** Three things on one layer; a rule for all of kind 0. */
    private static RuleChoice three() {
        RuleChoice x = new RuleChoice(2);
        for (int i = 0; i < 3; i++) {
            x.thing(0, 0, i, 0);
        }
        x.rule(0, NONE, NONE, NONE, 5);
        return x;
    }

    /** Keeps nine answers: three pairs, for kinds 0, 1 and 5. */
    private static void fill(RuleChoice x) {
        for (int kind : new int[] {0, 1, 5}) {
            x.winner(kind, 0, 1);
            x.winner(kind, 1, 2);
            x.winner(kind, 2, 2);
        }
        Check.due("kept when filled", x.kept(), 9);
    }

    private static void keepsByKindAndThings() {
        RuleChoice x = three();
        x.winner(0, 0, 1);
        state(x, 1, 0, "the first answer");
        x.winner(0, 1, 0);
        state(x, 1, 1, "the other way round");
        x.value(0, 0, 1);
        state(x, 1, 2, "value() finds it kept");
        x.value(0, 1, 1);
        state(x, 2, 2, "value() keeps, one thing twice");
        x.winner(0, 1, 1);
        state(x, 2, 3, "winner() finds what value() kept");
        x.winner(1, 0, 1);
        state(x, 3, 3, "another kind");
        x.winner(0, 0, 2);
        state(x, 4, 3, "another thing");
        x.listed(0, 0, 1, 0);
        x.why(0, 0, 1, 0);
        x.close(0);
        x.greatest(0, 0);
        state(x, 4, 3, "other calls neither keep nor count");
        x.listed(2, 0, 1, 0);
        x.why(2, 0, 1, 0);
        x.close(2);
        state(x, 4, 3, "other calls keep nothing");
    }

    private static void keepsThatThereIsNone() {
        RuleChoice x = three();
        Check.due("no winner", x.winner(3, 0, 1), NONE);
        Check.due("no winner again", x.winner(3, 1, 0), NONE);
        Check.due("no value", x.value(3, 0, 1), NONE);
        state(x, 1, 2, "that there is none");
    }

    private static void ruleDropsItsKind() {
        RuleChoice x = three();
        fill(x);
        x.rule(1, 1, 1, 7, 0);
        state(x, 6, 0, "a rule that matches none of them");
        x.winner(0, 0, 1);
        x.winner(5, 0, 1);
        x.winner(1, 0, 1);
        state(x, 7, 2, "only its kind was dropped");
        x.rule(4, NONE, NONE, NONE, 0);
        state(x, 7, 2, "a rule of a kind without answers");
    }

    private static void rankDropsItsKind() {
        RuleChoice x = three();
        fill(x);
        x.rank(0, 0);
        state(x, 9, 0, "the same rank");
        x.rank(0, 1);
        state(x, 6, 0, "another rank");
        x.winner(0, 0, 1);
        x.rank(0, 1);
        state(x, 7, 0, "that rank again");
    }

    private static void inAreaDropsItsKind() {
        RuleChoice x = three();
        x.area(-9, -9, 9, 9);
        x.area(-9, -9, 9, 9);
        fill(x);
        x.inArea(0, NONE);
        state(x, 9, 0, "no area as before");
        x.inArea(0, 0);
        state(x, 6, 0, "an area");
        x.winner(0, 0, 1);
        x.inArea(0, 0);
        state(x, 7, 0, "the same area");
        x.inArea(0, 1);
        state(x, 6, 0, "another area of the same size");
        x.winner(0, 0, 1);
        x.inArea(0, NONE);
        state(x, 6, 0, "no area");
    }

    private static void makeDropsTheThing() {
        RuleChoice x = three();
        fill(x);
        x.make(0, 0, 0);
        state(x, 9, 0, "the same class and layer");
        x.make(0, 1, 0);
        state(x, 6, 0, "another class of thing 0");
        x.make(2, 0, 3);
        state(x, 0, 0, "another layer of thing 2");
        fill(x);
        x.make(1, 1, 1);
        state(x, 3, 0, "both of thing 1");
        x.make(1, 0, 0);
        state(x, 3, 0, "thing 1 without answers");
    }

    private static void moveAcrossABorderDropsTheThing() {
        RuleChoice x = three();
        x.area(0, 0, 5, 5);
        fill(x);
        x.move(2, 2, 0);
        state(x, 9, 0, "to its own place");
        x.move(2, 5, 5);
        state(x, 9, 0, "within the area, to its corner");
        x.move(2, 6, 5);
        state(x, 3, 0, "out of an area that holds for no rule");
        fill(x);
        x.move(2, 7, 7);
        state(x, 9, 3, "outside the area");
        x.move(2, 0, 5);
        state(x, 3, 3, "into the area");
        x.move(0, -1, 0);
        state(x, 0, 3, "thing 0 out of the area");
    }

    private static void moveBetweenAreasDrops() {
        RuleChoice x = three();
        x.area(0, 0, 5, 5);
        x.area(10, 10, 15, 15);
        x.area(4, 4, 5, 5);
        fill(x);
        x.move(0, 12, 12);
        state(x, 6, 0, "from one area into another");
        x.move(1, 4, 4);
        state(x, 3, 0, "into a second area too");
        x.winner(0, 1, 1);
        x.move(1, 5, 5);
        state(x, 4, 0, "within both");
        x.move(1, 3, 3);
        state(x, 3, 0, "out of one of both");
    }

    private static void newAreaDropsNothing() {
        RuleChoice x = three();
        fill(x);
        x.area(0, 0, 1, 1);
        state(x, 9, 0, "a new area");
        x.move(1, 0, 1);
        state(x, 9, 0, "within the new area");
        x.move(1, 2, 1);
        state(x, 3, 0, "out of the new area");
        RuleChoice full = three();
        for (int i = 0; i < 12; i++) {
            full.area(0, 0, 2, 0);
        }
        full.area(100, 100, 200, 200);
        fill(full);
        full.move(0, 150, 150);
        full.move(0, 300, 300);
        state(full, 6, 0, "out of twelve areas");
        full.winner(0, 0, 0);
        full.move(0, 150, 150);
        state(full, 7, 0, "into an area that was refused");
    }

    private static void newThingDropsNothing() {
        RuleChoice x = three();
        fill(x);
        x.thing(1, 1, 0, 0);
        state(x, 9, 0, "a new thing");
    }

    private static void keepsAll() {
        RuleChoice x = new RuleChoice(1);
        for (int i = 0; i < 25; i++) {
            x.thing(0, 0, 0, 0);
        }
        x.rule(5, NONE, NONE, NONE, 3);
        int asked = 0;
        for (int a = 0; a < 25; a++) {
            for (int b = a; b < 25; b++) {
                x.winner(5, b, a);
                asked++;
            }
        }
        state(x, asked, 0, "each pair of 25 things");
        x.make(24, 0, 1);
        state(x, asked - 25, 0, "thing 24 dropped");
        x.make(0, 0, 1);
        state(x, asked - 49, 0, "thing 0 dropped");
        x.rule(5, NONE, NONE, NONE, 3);
        state(x, 0, 0, "all of the kind dropped");
    }

    private static void state(RuleChoice x, int kept, long spared, String when) {
        Check.due("kept(): " + when, x.kept(), kept);
        Check.due("spared(): " + when, x.spared(), spared);
    }
}
