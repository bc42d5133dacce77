/** The sentences of promises 1 to 8, each at its boundary, one below it and one above it. */
final class TellingEdges {
    private static final int NONE = RuleChoice.NONE;
    private static final int MIN = Integer.MIN_VALUE;
    private static final int MAX = Integer.MAX_VALUE;
    private static final long FAR = 1_000_000L;
    /** One above and one below, the ends of the type, and such as would be right if cut to an int. */
    private static final long[] NO_COORDINATES = {FAR + 1, -FAR - 1, Long.MAX_VALUE, Long.MIN_VALUE, 1L << 32,
        -(1L << 32), (1L << 32) + 1};
    private static final long[] NO_VALUES = {-1, FAR + 1, Long.MAX_VALUE, Long.MIN_VALUE, 1L << 32, (1L << 32) + 1};

    private TellingEdges() {
    }

    static void run() {
        newObject();
        newObjectIsEmpty();
        ruleFull();
        ruleOut();
        ruleIllegal();
        rank();
        rankRefused();
        areaFull();
        areaTurned();
        areaNoPlace();
        inArea();
        inAreaRefused();
        thingFull();
        thingRefused();
        make();
        makeRefused();
        move();
        moveRefused();
    }

    private static void newObject() {
        Doc.promise(1, "So many CLASSES (below 1: 1; above 16: 16), no things, areas, rules.");
        int[][] askedAndDue = {{MIN, 1}, {-1, 1}, {0, 1}, {1, 1}, {2, 2}, {15, 15}, {16, 16}, {17, 16}, {MAX, 16}};
        for (int[] row : askedAndDue) {
            RuleChoice x = new RuleChoice(row[0]);
            String of = " of " + row[0] + " classes";
            Check.due("a thing of the last class" + of, x.thing(row[1] - 1, 0, 0, 0), 0);
            Check.outOfBounds("a thing of the class after it" + of, () -> x.thing(row[1], 0, 0, 0));
            Check.due("a rule of the last class" + of, x.rule(0, row[1] - 1, row[1] - 1, 0, 1), 0);
            Check.outOfBounds("a rule, first of the class after it" + of, () -> x.rule(0, row[1], 0, 0, 1));
            Check.outOfBounds("a rule, second of the class after it" + of, () -> x.rule(0, 0, row[1], 0, 1));
            Check.due("make of the last class" + of, x.make(0, row[1] - 1, 0), false);
            Check.outOfBounds("make of the class after it" + of, () -> x.make(0, row[1], 0));
        }
    }

    private static void newObjectIsEmpty() {
        Scene.NEW.outOfBounds("rank(0, 0)", x -> x.rank(0, 0));
        Scene.NEW.outOfBounds("inArea(0, NONE)", x -> x.inArea(0, NONE));
        Scene.NEW.outOfBounds("make(0, 0, 0)", x -> x.make(0, 0, 0));
        Scene.NEW.outOfBounds("move(0, 0, 0)", x -> x.move(0, 0, 0));
        Scene.NEW.outOfBounds("winner(0, 0, 0)", x -> x.winner(0, 0, 0));
        Scene.NEW.answers("close(0)", 0, x -> x.close(0));
        Scene.NEW.answers("pair(0, 0)", NONE, x -> x.pair(0, 0));
        Scene.NEW.answers("greatest(0, 0)", NONE, x -> x.greatest(0, 0));
        Scene.NEW.answers("kept()", 0, RuleChoice::kept);
        Scene.NEW.answers("spared()", 0, RuleChoice::spared);
        RuleChoice x = new RuleChoice(1);
        Check.due("the first rule", x.rule(0, 0, 0, 0, 0), 0);
        Check.outOfBounds("inArea(0, 0) without areas", () -> x.inArea(0, 0));
        Check.due("the first area", x.area(0, 0, 0, 0), 0);
        Check.due("the first thing", x.thing(0, 0, 0, 0), 0);
    }

    private static void ruleFull() {
        Doc.promise(2, "A rule: its number; NONE, when there are 40.");
        RuleChoice x = new RuleChoice(1);
        for (int i = 0; i < 40; i++) {
            Check.due("rule " + i, x.rule(i % 6, NONE, 0, NONE, i), i);
        }
        Check.due("the 41st", x.rule(0, NONE, 0, NONE, 40), NONE);
        Check.due("the 42nd", x.rule(5, 0, NONE, 7, 0), NONE);
        Check.due("rule 39 is there", x.rank(39, 0), false);
        Check.outOfBounds("rule 40 is not there", () -> x.rank(40, 0));
        Scene.FULL.answers("rule(0, NONE, NONE, NONE, 999)", NONE, y -> y.rule(0, NONE, NONE, NONE, 999));
        Scene.FULL.answers("rule(5, 0, 0, 0, 0)", NONE, y -> y.rule(5, 0, 0, 0, 0));
    }

    private static void ruleOut() {
        Doc.promise(2, "IndexOutOfBoundsException, when it is no kind, class or NONE, layer or NONE;");
        RuleChoice x = new RuleChoice(Scene.CLASSES);
        Check.due("kind 0, class NONE, layer NONE", x.rule(0, NONE, NONE, NONE, 1), 0);
        Check.due("kind 5, last class, layer 7", x.rule(5, 2, 2, 7, 1), 1);
        Check.due("kind 5, class 0, layer 0", x.rule(5, 0, 0, 0, 1), 2);
        for (Scene scene : Scene.values()) {
            for (int kind : new int[] {-1, 6, MIN, MAX}) {
                ruleOut(scene, kind, 0, 0, 0, 1);
            }
            for (int cls : new int[] {-2, Scene.CLASSES, MIN, MAX}) {
                ruleOut(scene, 0, cls, 0, 0, 1);
                ruleOut(scene, 0, 0, cls, 0, 1);
                ruleOut(scene, 0, NONE, cls, NONE, 1);
            }
            for (int layer : new int[] {-2, 8, MIN, MAX}) {
                ruleOut(scene, 0, 0, 0, layer, 1);
                ruleOut(scene, 1, NONE, NONE, layer, 1);
            }
        }
    }

    private static void ruleOut(Scene scene, int kind, int classA, int classB, int layer, long v) {
        String call = "rule(" + kind + ", " + classA + ", " + classB + ", " + layer + ", " + v + ")";
        scene.outOfBounds(call, x -> x.rule(kind, classA, classB, layer, v));
    }

    private static void ruleIllegal() {
        Doc.promise(2, "IllegalArgumentException, when it is no value.");
        RuleChoice x = new RuleChoice(1);
        x.thing(0, 0, 0, 0);
        long[] values = {0, 1, FAR - 1, FAR};
        for (int i = 0; i < values.length; i++) {
            Check.due("value " + values[i], x.rule(0, 0, 0, 0, values[i]), i);
            Check.due("value() of value " + values[i], x.value(0, 0, 0), values[i]);
        }
        for (Scene scene : Scene.values()) {
            for (long v : NO_VALUES) {
                scene.illegal("rule of value " + v, y -> y.rule(0, NONE, NONE, NONE, v));
                ruleOut(scene, 6, 0, 0, 0, v);
                ruleOut(scene, 0, 0, 0, 8, v);
            }
        }
    }

    private static void rank() {
        Doc.promise(3, "A rule's RANK (-1,000 .. 1,000): whether it was another one.");
        RuleChoice x = new RuleChoice(1);
        x.rule(0, NONE, NONE, NONE, 1);
        Check.due("0, as at first", x.rank(0, 0), false);
        for (int r : new int[] {-1000, -999, -1, 0, 1, 999, 1000}) {
            Check.due("another one: " + r, x.rank(0, r), true);
            Check.due("the same: " + r, x.rank(0, r), false);
        }
        Scene.SOME.answers("rank(0, 0)", 0, y -> y.rank(0, 0) ? 1 : 0);
    }

    private static void rankRefused() {
        Doc.promise(3, "IndexOutOfBoundsException, when there is no such rule; "
                + "IllegalArgumentException, when it is no RANK.");
        for (Scene scene : Scene.values()) {
            for (int rule : new int[] {-1, scene.rules, MIN, MAX}) {
                scene.outOfBounds("rank(" + rule + ", 7)", x -> x.rank(rule, 7));
                scene.outOfBounds("rank(" + rule + ", 1001)", x -> x.rank(rule, 1001));
            }
        }
        for (Scene scene : new Scene[] {Scene.SOME, Scene.FULL}) {
            for (int r : new int[] {-1001, 1001, MIN, MAX}) {
                scene.illegal("the first rule's rank " + r, x -> x.rank(0, r));
                scene.illegal("rank " + r + " of a rule that has one", x -> x.rank(1, r));
                scene.illegal("the last rule's rank " + r, x -> x.rank(scene.rules - 1, r));
            }
        }
    }

    private static void areaFull() {
        Doc.promise(4, "An area from x0, y0 to x1, y1: its number; NONE, when there are 12.");
        RuleChoice x = new RuleChoice(1);
        x.rule(0, NONE, NONE, NONE, 1);
        for (int i = 0; i < 12; i++) {
            Check.due("area " + i, x.area(i, -i, i + 1, i), i);
        }
        Check.due("the 13th", x.area(0, 0, 1, 1), NONE);
        Check.due("the 14th", x.area(0, 0, 1, 1), NONE);
        Check.due("area 11 is there", x.inArea(0, 11), true);
        Check.outOfBounds("area 12 is not there", () -> x.inArea(0, 12));
        Scene.FULL.answers("area(-6, 0, -6, 0)", NONE, y -> y.area(-6, 0, -6, 0));
    }

    private static void areaTurned() {
        Doc.promise(4, "IllegalArgumentException, when it is turned (x0 above x1, or y0 above y1),");
        RuleChoice x = new RuleChoice(1);
        Check.due("x0 below x1, y0 below y1", x.area(4, 6, 5, 7), 0);
        Check.due("x0 is x1", x.area(5, 6, 5, 7), 1);
        Check.due("y0 is y1", x.area(4, 7, 5, 7), 2);
        Check.due("both are", x.area(5, 7, 5, 7), 3);
        for (Scene scene : Scene.values()) {
            scene.illegal("x0 one above x1", y -> y.area(6, 6, 5, 7));
            scene.illegal("y0 one above y1", y -> y.area(4, 8, 5, 7));
            scene.illegal("both above", y -> y.area(6, 8, 5, 7));
            scene.illegal("x0 far above x1", y -> y.area(FAR, 0, -FAR, 0));
            scene.illegal("y0 far above y1", y -> y.area(0, FAR, 0, -FAR));
        }
    }

    private static void areaNoPlace() {
        Doc.promise(4, "or a corner is no place.");
        RuleChoice x = new RuleChoice(1);
        Check.due("the widest", x.area(-FAR, -FAR, FAR, FAR), 0);
        Check.due("the lowest corner", x.area(-FAR, -FAR, -FAR, -FAR), 1);
        Check.due("the highest corner", x.area(FAR, FAR, FAR, FAR), 2);
        for (Scene scene : Scene.values()) {
            for (long c : NO_COORDINATES) {
                scene.illegal("x0 " + c, y -> y.area(c, 0, FAR, 0));
                scene.illegal("y0 " + c, y -> y.area(0, c, 0, FAR));
                scene.illegal("x1 " + c, y -> y.area(-FAR, 0, c, 0));
                scene.illegal("y1 " + c, y -> y.area(0, -FAR, 0, c));
                scene.illegal("x0 and x1 " + c, y -> y.area(c, 0, c, 0));
                scene.illegal("y0 and y1 " + c, y -> y.area(0, c, 0, c));
            }
        }
    }

    private static void inArea() {
        Doc.promise(5, "A rule's area, or NONE: whether it was another one.");
        RuleChoice x = new RuleChoice(1);
        x.rule(0, NONE, NONE, NONE, 5);
        Check.due("NONE, as at first, without areas", x.inArea(0, NONE), false);
        for (int i = 0; i < 12; i++) {
            x.area(0, 0, 1, 1);
        }
        Check.due("NONE, as at first", x.inArea(0, NONE), false);
        for (int area : new int[] {0, 1, 11, NONE, 11, 0}) {
            Check.due("another one: " + area, x.inArea(0, area), true);
            Check.due("the same: " + area, x.inArea(0, area), false);
        }
        Scene.SOME.answers("inArea(2, 2)", 0, y -> y.inArea(2, 2) ? 1 : 0);
        Scene.SOME.answers("inArea(0, NONE)", 0, y -> y.inArea(0, NONE) ? 1 : 0);
    }

    private static void inAreaRefused() {
        Doc.promise(5, "IndexOutOfBoundsException, when there is no such rule, or area.");
        for (Scene scene : Scene.values()) {
            for (int rule : new int[] {-1, scene.rules, MIN, MAX}) {
                scene.outOfBounds("inArea(" + rule + ", NONE)", x -> x.inArea(rule, NONE));
                scene.outOfBounds("inArea(" + rule + ", 0)", x -> x.inArea(rule, 0));
                scene.outOfBounds("inArea(" + rule + ", 12)", x -> x.inArea(rule, 12));
            }
            for (int area : new int[] {-2, scene.areas, MIN, MAX}) {
                scene.outOfBounds("inArea(0, " + area + ")", x -> x.inArea(0, area));
                scene.outOfBounds("area " + area + " of a rule that has one", x -> x.inArea(2, area));
                scene.outOfBounds("inArea(the last, " + area + ")", x -> x.inArea(scene.rules - 1, area));
            }
        }
    }

    private static void thingFull() {
        Doc.promise(6, "A thing: its number; NONE, when there are 40.");
        RuleChoice x = new RuleChoice(1);
        for (int i = 0; i < 40; i++) {
            Check.due("thing " + i, x.thing(0, i % 8, i, -i), i);
        }
        Check.due("the 41st", x.thing(0, 0, 0, 0), NONE);
        Check.due("the 42nd", x.thing(0, 0, 0, 0), NONE);
        Check.due("thing 39 is there", x.move(39, 39, -39), false);
        Check.outOfBounds("thing 40 is not there", () -> x.move(40, 0, 0));
        Scene.FULL.answers("thing(0, 0, 0, 0)", NONE, y -> y.thing(0, 0, 0, 0));
        Scene.FULL.answers("thing(2, 7, FAR, FAR)", NONE, y -> y.thing(2, 7, FAR, FAR));
    }

    private static void thingRefused() {
        Doc.promise(6, "IndexOutOfBoundsException, when it is no class, or layer; "
                + "IllegalArgumentException, when it is no place.");
        RuleChoice x = new RuleChoice(Scene.CLASSES);
        Check.due("the lowest of all", x.thing(0, 0, -FAR, -FAR), 0);
        Check.due("the highest of all", x.thing(Scene.CLASSES - 1, 7, FAR, FAR), 1);
        for (Scene scene : Scene.values()) {
            for (int cls : new int[] {-1, Scene.CLASSES, MIN, MAX}) {
                scene.outOfBounds("thing of class " + cls, y -> y.thing(cls, 0, 0, 0));
                scene.outOfBounds("thing of class " + cls + ", no place", y -> y.thing(cls, 0, FAR + 1, 0));
            }
            for (int layer : new int[] {-1, 8, MIN, MAX}) {
                scene.outOfBounds("thing on layer " + layer, y -> y.thing(0, layer, 0, 0));
                scene.outOfBounds("thing on layer " + layer + ", no place", y -> y.thing(0, layer, 0, -FAR - 1));
            }
            for (long c : NO_COORDINATES) {
                scene.illegal("thing at x " + c, y -> y.thing(0, 0, c, 0));
                scene.illegal("thing at y " + c, y -> y.thing(0, 0, 0, c));
            }
        }
    }

    private static void make() {
        Doc.promise(7, "A thing's class and layer: whether one was another.");
        RuleChoice x = new RuleChoice(16);
        x.thing(0, 0, 0, 0);
        Check.due("as told", x.make(0, 0, 0), false);
        Check.due("another class", x.make(0, 15, 0), true);
        Check.due("the same class", x.make(0, 15, 0), false);
        Check.due("another layer", x.make(0, 15, 7), true);
        Check.due("the same layer", x.make(0, 15, 7), false);
        Check.due("both others", x.make(0, 5, 6), true);
        Check.due("the same both", x.make(0, 5, 6), false);
        Check.due("the one for the other", x.make(0, 6, 5), true);
        Scene.SOME.answers("make(4, 1, 0)", 0, y -> y.make(4, 1, 0) ? 1 : 0);
    }

    private static void makeRefused() {
        Doc.promise(7, "IndexOutOfBoundsException, when there is no such thing, class, or layer.");
        for (Scene scene : Scene.values()) {
            for (int thing : new int[] {-1, scene.things, MIN, MAX}) {
                scene.outOfBounds("make(" + thing + ", 1, 1)", x -> x.make(thing, 1, 1));
            }
        }
        for (Scene scene : new Scene[] {Scene.SOME, Scene.FULL}) {
            int last = scene.things - 1;
            for (int cls : new int[] {-1, Scene.CLASSES, MIN, MAX}) {
                scene.outOfBounds("make(0, " + cls + ", 1)", x -> x.make(0, cls, 1));
                scene.outOfBounds("make(the last, " + cls + ", 7)", x -> x.make(last, cls, 7));
            }
            for (int layer : new int[] {-1, 8, MIN, MAX}) {
                scene.outOfBounds("make(0, 1, " + layer + ")", x -> x.make(0, 1, layer));
                scene.outOfBounds("make(the last, 2, " + layer + ")", x -> x.make(last, 2, layer));
            }
        }
    }

    private static void move() {
        Doc.promise(8, "A thing is moved: whether it lies elsewhere.");
        RuleChoice x = new RuleChoice(1);
        x.thing(0, 0, 3, 4);
        long[][] places = {{3, 4}, {4, 4}, {4, 5}, {5, 4}, {-FAR, 4}, {-FAR, -FAR}, {FAR, -FAR}, {FAR, FAR},
            {FAR - 1, FAR}, {FAR - 1, 1 - FAR}, {1 - FAR, 1 - FAR}};
        for (int i = 0; i < places.length; i++) {
            long[] p = places[i];
            Check.due("move to " + p[0] + ", " + p[1], x.move(0, p[0], p[1]), i > 0);
            Check.due("again to " + p[0] + ", " + p[1], x.move(0, p[0], p[1]), false);
        }
        Scene.SOME.answers("move(2, 2, 2)", 0, y -> y.move(2, 2, 2) ? 1 : 0);
    }

    private static void moveRefused() {
        Doc.promise(8, "IndexOutOfBoundsException, when there is no such thing; "
                + "IllegalArgumentException, when it is no place.");
        for (Scene scene : Scene.values()) {
            for (int thing : new int[] {-1, scene.things, MIN, MAX}) {
                scene.outOfBounds("move(" + thing + ", 0, 0)", x -> x.move(thing, 0, 0));
                scene.outOfBounds("move(" + thing + ", no place)", x -> x.move(thing, FAR + 1, 0));
            }
        }
        for (Scene scene : new Scene[] {Scene.SOME, Scene.FULL}) {
            int last = scene.things - 1;
            for (long c : NO_COORDINATES) {
                scene.illegal("move of the first to x " + c, x -> x.move(0, c, 500));
                scene.illegal("move of the last to x " + c, x -> x.move(last, c, 500));
                scene.illegal("move of the first to y " + c, x -> x.move(0, 500, c));
                scene.illegal("move of the last to y " + c, x -> x.move(last, 500, c));
            }
        }
    }
}
