/** Promises 1 to 8: a new object, and the calls that tell it of rules, areas and things. */
public final class TellingTest {
    private static final int NONE = RuleChoice.NONE;
    private static final int MIN = Integer.MIN_VALUE;
    private static final int MAX = Integer.MAX_VALUE;
    private static final long FAR = 1_000_000L;
    private static final int[] NO_KINDS = {-1, 6, MIN, MAX};
    private static final int[] NO_LAYERS = {8, -2, MIN, MAX};
    private static final long[] NO_PLACES = {FAR + 1, -FAR - 1, Long.MIN_VALUE, Long.MAX_VALUE, 1L << 32};

    public static void main(String[] args) {
        newObject();
        rule();
        ruleAtItsLimit();
        ruleRefused();
        rank();
        area();
        areaAtItsLimit();
        inArea();
        thing();
        thingAtItsLimit();
        make();
        move();
        refusedCallsChangeNothing();
        Check.end("TellingTest");
    }

    private static void newObject() {
        classesAre(MIN, 1);
        classesAre(-1, 1);
        classesAre(0, 1);
        classesAre(1, 1);
        classesAre(2, 2);
        classesAre(15, 15);
        classesAre(16, 16);
        classesAre(17, 16);
        classesAre(MAX, 16);
        RuleChoice x = new RuleChoice(3);
        Check.due("kept() of a new object", x.kept(), 0);
        Check.due("spared() of a new object", x.spared(), 0);
        Check.due("pair(0, 0) of a new object", x.pair(0, 0), NONE);
        Check.due("close(0) of a new object", x.close(0), 0);
        Check.due("greatest(0, 0) of a new object", x.greatest(0, 0), NONE);
        Check.outOfBounds("rank(0, 0) of a new object", () -> x.rank(0, 0));
        Check.outOfBounds("make(0, 0, 0) of a new object", () -> x.make(0, 0, 0));
        Check.outOfBounds("winner(0, 0, 0) of a new object", () -> x.winner(0, 0, 0));
        x.rule(0, 0, 0, 0, 0);
        Check.outOfBounds("inArea(0, 0) without areas", () -> x.inArea(0, 0));
    }

    private static void classesAre(int asked, int classes) {
        RuleChoice x = new RuleChoice(asked);
        String text = " with " + asked + " classes";
        Check.due("thing" + text, x.thing(classes - 1, 0, 0, 0), 0);
        Check.outOfBounds("thing" + text, () -> x.thing(classes, 0, 0, 0));
        Check.due("rule" + text, x.rule(0, classes - 1, classes - 1, 0, 0), 0);
        Check.outOfBounds("rule" + text, () -> x.rule(0, classes, 0, 0, 0));
        Check.outOfBounds("rule" + text, () -> x.rule(0, 0, classes, 0, 0));
        Check.outOfBounds("make" + text, () -> x.make(0, classes, 0));
    }

    private static void rule() {
        RuleChoice x = new RuleChoice(3);
        Check.due("first rule", x.rule(0, 0, 2, 0, 0), 0);
        Check.due("second rule", x.rule(5, NONE, NONE, NONE, 1_000_000), 1);
        Check.due("third rule", x.rule(0, 0, NONE, 7, 1), 2);
        Check.due("fourth rule", x.rule(0, NONE, 0, 7, 1), 3);
        x.thing(0, 7, 0, 0);
        Check.due("value of the greatest value", x.value(5, 0, 0), 1_000_000);
        Check.due("a new rule's rank is 0", x.rank(0, 0), false);
        Check.due("a new rule has no area", x.inArea(0, NONE), false);
    }

    private static void ruleAtItsLimit() {
        RuleChoice x = new RuleChoice(3);
        x.thing(0, 0, 0, 0);
        for (int i = 0; i < 40; i++) {
            Check.due("rule number " + i, x.rule(1, NONE, NONE, NONE, i), i);
        }
        Check.due("winner of 40", x.winner(1, 0, 0), 39);
        Check.due("the 41st rule", x.rule(1, NONE, NONE, NONE, 99), NONE);
        Check.due("an untold rule drops nothing", x.kept(), 1);
        Check.due("winner of 40 still", x.winner(1, 0, 0), 39);
        Check.due("greatest of 40", x.greatest(1, 0), 39);
        Check.outOfBounds("rank(40, 0)", () -> x.rank(40, 0));
        Check.outOfBounds("41st rule of no kind", () -> x.rule(6, 0, 0, 0, 0));
        Check.illegal("41st rule of no value", () -> x.rule(0, 0, 0, 0, -1));
    }

    private static void ruleRefused() {
        RuleChoice x = new RuleChoice(3);
        for (int kind : NO_KINDS) {
            Check.outOfBounds("rule of kind " + kind, () -> x.rule(kind, 0, 0, 0, 1));
        }
        for (int cls : new int[] {3, -2, MIN, MAX}) {
            Check.outOfBounds("rule of first class " + cls, () -> x.rule(0, cls, 0, 0, 1));
            Check.outOfBounds("rule of second class " + cls, () -> x.rule(0, 0, cls, 0, 1));
        }
        for (int layer : NO_LAYERS) {
            Check.outOfBounds("rule of layer " + layer, () -> x.rule(0, 0, 0, layer, 1));
        }
        for (long v : new long[] {-1, FAR + 1, Long.MIN_VALUE, Long.MAX_VALUE, 1L << 32}) {
            Check.illegal("rule of value " + v, () -> x.rule(0, 0, 0, 0, v));
            Check.outOfBounds("rule of no kind and value " + v, () -> x.rule(6, 0, 0, 0, v));
            Check.outOfBounds("rule of no layer and value " + v, () -> x.rule(0, 0, 0, 8, v));
        }
        Check.due("rule after refused ones", x.rule(0, 0, 0, 0, 0), 0);
    }

    private static void rank() {
        RuleChoice x = new RuleChoice(1);
        x.rule(0, NONE, NONE, NONE, 1);
        Check.due("rank(0, 1000)", x.rank(0, 1000), true);
        Check.due("rank(0, 1000) again", x.rank(0, 1000), false);
        Check.due("rank(0, -1000)", x.rank(0, -1000), true);
        Check.due("rank(0, 0)", x.rank(0, 0), true);
        for (int r : new int[] {1001, -1001, MIN, MAX}) {
            Check.illegal("rank(0, " + r + ")", () -> x.rank(0, r));
            Check.outOfBounds("rank(1, " + r + ")", () -> x.rank(1, r));
        }
        for (int rule : new int[] {-1, 1, 40, MIN, MAX}) {
            Check.outOfBounds("rank(" + rule + ", 0)", () -> x.rank(rule, 0));
        }
        Check.due("rank(0, 0) after refused ones", x.rank(0, 0), false);
    }

    private static void area() {
        RuleChoice x = new RuleChoice(1);
        Check.due("widest area", x.area(-FAR, -FAR, FAR, FAR), 0);
        Check.due("area of one place", x.area(7, 7, 7, 7), 1);
        Check.illegal("area turned in x", () -> x.area(1, 0, 0, 0));
        Check.illegal("area turned in y", () -> x.area(0, 1, 0, 0));
        for (long c : NO_PLACES) {
            Check.illegal("area from x " + c, () -> x.area(c, 0, FAR, 0));
            Check.illegal("area from y " + c, () -> x.area(0, c, 0, FAR));
            Check.illegal("area to x " + c, () -> x.area(-FAR, 0, c, 0));
            Check.illegal("area to y " + c, () -> x.area(0, -FAR, 0, c));
        }
        Check.due("area after refused ones", x.area(0, 0, 1, 1), 2);
        bordersLieIn();
    }

    private static void bordersLieIn() {
        RuleChoice x = new RuleChoice(1);
        x.area(-2, 10, 4, 20);
        x.rule(0, NONE, NONE, NONE, 1);
        x.inArea(0, 0);
        x.thing(0, 0, 0, 15);
        long[][] inside = {{-2, 10}, {4, 20}, {-2, 20}, {4, 10}, {1, 15}, {4, 15}, {1, 20}};
        long[][] outside = {{-3, 15}, {5, 15}, {1, 9}, {1, 21}, {5, 21}, {-3, 9}};
        for (long[] place : inside) {
            x.move(0, place[0], place[1]);
            Check.due("winner inside at " + place[0] + ", " + place[1], x.winner(0, 0, 0), 0);
        }
        for (long[] place : outside) {
            x.move(0, place[0], place[1]);
            Check.due("winner outside at " + place[0] + ", " + place[1], x.winner(0, 0, 0), NONE);
        }
    }

    private static void areaAtItsLimit() {
        RuleChoice x = new RuleChoice(1);
        for (int i = 0; i < 12; i++) {
            Check.due("area number " + i, x.area(i, i, i, i), i);
        }
        Check.due("the 13th area", x.area(0, 0, 0, 0), NONE);
        Check.illegal("13th area, turned", () -> x.area(1, 0, 0, 0));
        Check.illegal("13th area, no place", () -> x.area(0, 0, FAR + 1, 0));
        x.rule(0, 0, 0, 0, 0);
        Check.due("inArea(0, 11)", x.inArea(0, 11), true);
        Check.outOfBounds("inArea(0, 12)", () -> x.inArea(0, 12));
    }

    private static void inArea() {
        RuleChoice x = new RuleChoice(1);
        x.rule(0, NONE, NONE, NONE, 5);
        x.area(0, 0, 1, 1);
        x.area(0, 0, 1, 1);
        Check.due("inArea(0, NONE) at first", x.inArea(0, NONE), false);
        Check.due("inArea(0, 0)", x.inArea(0, 0), true);
        Check.due("inArea(0, 0) again", x.inArea(0, 0), false);
        Check.due("inArea of another area of the same size", x.inArea(0, 1), true);
        Check.due("inArea(0, NONE)", x.inArea(0, NONE), true);
        for (int area : new int[] {-2, 2, 12, MIN, MAX}) {
            Check.outOfBounds("inArea(0, " + area + ")", () -> x.inArea(0, area));
        }
        for (int rule : new int[] {-1, 1, 40, MIN, MAX}) {
            Check.outOfBounds("inArea(" + rule + ", 0)", () -> x.inArea(rule, 0));
            Check.outOfBounds("inArea(" + rule + ", NONE)", () -> x.inArea(rule, NONE));
        }
        Check.due("inArea(0, NONE) after refused ones", x.inArea(0, NONE), false);
    }

    private static void thing() {
        RuleChoice x = new RuleChoice(2);
        Check.due("first thing", x.thing(0, 0, -FAR, FAR), 0);
        Check.due("second thing", x.thing(1, 7, FAR, -FAR), 1);
        for (int cls : new int[] {2, -1, MIN, MAX}) {
            Check.outOfBounds("thing of class " + cls, () -> x.thing(cls, 0, 0, 0));
        }
        for (int layer : new int[] {8, -1, MIN, MAX}) {
            Check.outOfBounds("thing on layer " + layer, () -> x.thing(0, layer, 0, 0));
        }
        for (long c : NO_PLACES) {
            Check.illegal("thing at x " + c, () -> x.thing(0, 0, c, 0));
            Check.illegal("thing at y " + c, () -> x.thing(0, 0, 0, c));
            Check.outOfBounds("thing of no class at x " + c, () -> x.thing(-1, 0, c, 0));
            Check.outOfBounds("thing on no layer at y " + c, () -> x.thing(0, 8, 0, c));
        }
        Check.due("thing after refused ones", x.thing(0, 0, 0, 0), 2);
    }

    private static void thingAtItsLimit() {
        RuleChoice x = new RuleChoice(1);
        for (int i = 0; i < 40; i++) {
            Check.due("thing number " + i, x.thing(0, 0, i, 0), i);
        }
        Check.due("the 41st thing", x.thing(0, 0, 0, 0), NONE);
        Check.outOfBounds("41st thing of no class", () -> x.thing(1, 0, 0, 0));
        Check.illegal("41st thing at no place", () -> x.thing(0, 0, FAR + 1, 0));
        Check.due("winner(5, 39, 39)", x.winner(5, 39, 39), NONE);
        Check.due("winner(5, 0, 39)", x.winner(5, 0, 39), NONE);
        Check.due("kept of the last things", x.kept(), 2);
        Check.outOfBounds("winner(0, 40, 0)", () -> x.winner(0, 40, 0));
        Check.outOfBounds("make(40, 0, 0)", () -> x.make(40, 0, 0));
    }

    private static void make() {
        RuleChoice x = new RuleChoice(2);
        x.rule(0, 1, 1, 3, 8);
        x.thing(0, 0, 0, 0);
        Check.due("make, the same", x.make(0, 0, 0), false);
        Check.due("make, another class", x.make(0, 1, 0), true);
        Check.due("why, after another class", x.why(0, 0, 0, 0), 3);
        Check.due("make, another layer", x.make(0, 1, 3), true);
        Check.due("winner after make", x.winner(0, 0, 0), 0);
        Check.due("make, both others", x.make(0, 0, 7), true);
        Check.due("why, after both others", x.why(0, 0, 0, 0), 2);
        for (int cls : new int[] {2, -1, MIN, MAX}) {
            Check.outOfBounds("make of class " + cls, () -> x.make(0, cls, 0));
        }
        for (int layer : new int[] {8, -1, MIN, MAX}) {
            Check.outOfBounds("make on layer " + layer, () -> x.make(0, 0, layer));
        }
        for (int thing : new int[] {-1, 1, MIN, MAX}) {
            Check.outOfBounds("make(" + thing + ", 0, 0)", () -> x.make(thing, 0, 0));
        }
        Check.due("make, the same after refused ones", x.make(0, 0, 7), false);
    }

    private static void move() {
        RuleChoice x = new RuleChoice(1);
        x.thing(0, 0, 3, 4);
        Check.due("move to its own place", x.move(0, 3, 4), false);
        Check.due("move in x", x.move(0, FAR, 4), true);
        Check.due("move in y", x.move(0, FAR, -FAR), true);
        Check.due("move to that place again", x.move(0, FAR, -FAR), false);
        for (long c : NO_PLACES) {
            Check.illegal("move to x " + c, () -> x.move(0, c, 0));
            Check.illegal("move to y " + c, () -> x.move(0, 0, c));
            Check.outOfBounds("move of no thing to x " + c, () -> x.move(1, c, 0));
        }
        for (int thing : new int[] {-1, 1, MIN, MAX}) {
            Check.outOfBounds("move(" + thing + ", 0, 0)", () -> x.move(thing, 0, 0));
        }
        Check.due("move to that place after refused ones", x.move(0, FAR, -FAR), false);
    }

    private static void refusedCallsChangeNothing() {
        RuleChoice x = new RuleChoice(2);
        x.area(0, 0, 9, 9);
        x.rule(0, NONE, NONE, NONE, 5);
        x.thing(0, 0, 0, 0);
        x.winner(0, 0, 0);
        Check.outOfBounds("rule of no layer", () -> x.rule(0, 0, 0, 8, 1));
        Check.illegal("rule of no value", () -> x.rule(0, 0, 0, 0, -1));
        Check.illegal("no rank", () -> x.rank(0, 1001));
        Check.outOfBounds("no area", () -> x.inArea(0, 1));
        Check.outOfBounds("make with a class that is another one, on no layer", () -> x.make(0, 1, 8));
        Check.illegal("move to x outside, y no place", () -> x.move(0, 100, FAR + 1));
        Check.due("kept after refused calls", x.kept(), 1);
        Check.due("make, as it was", x.make(0, 0, 0), false);
        Check.due("move, as it was", x.move(0, 0, 0), false);
        Check.due("rank, as it was", x.rank(0, 0), false);
        Check.due("inArea, as it was", x.inArea(0, NONE), false);
    }
}
