/** The sentences of "Terms", each at its boundary, one below it and one above it. */
final class TermsEdges {
    private static final int NONE = RuleChoice.NONE;
    private static final long FAR = 1_000_000L;

    private TermsEdges() {
    }

    static void run() {
        numbers();
        things();
        areas();
        borders();
        rules();
        matches();
        matchesByClass();
        matchesByLayer();
        matchesByArea();
        winner();
        kept();
        keptApart();
        ruleDrops();
        thingDrops();
        moveDrops();
        nothingElseDrops();
        refusedCallsDropNothing();
        newArea();
        none();
    }

    private static void numbers() {
        Doc.terms("CLASSES are 0 .. n - 1, LAYERS 0 .. 7, KINDS 0 .. 5.");
        for (int n : new int[] {1, 2, 15, 16}) {
            RuleChoice x = new RuleChoice(n);
            String of = " of " + n + " classes";
            Check.outOfBounds("class -1" + of, () -> x.thing(-1, 0, 0, 0));
            Check.due("class 0" + of, x.thing(0, 0, 0, 0), 0);
            Check.due("class n - 1" + of, x.thing(n - 1, 0, 0, 0), 1);
            Check.outOfBounds("class n" + of, () -> x.thing(n, 0, 0, 0));
        }
        RuleChoice x = new RuleChoice(1);
        Check.outOfBounds("layer -1", () -> x.thing(0, -1, 0, 0));
        for (int layer = 0; layer <= 7; layer++) {
            Check.due("layer " + layer, x.thing(0, layer, 0, 0), layer);
        }
        Check.outOfBounds("layer 8", () -> x.thing(0, 8, 0, 0));
        Check.outOfBounds("kind -1", () -> x.rule(-1, 0, 0, 0, 1));
        for (int kind = 0; kind <= 5; kind++) {
            Check.due("kind " + kind, x.rule(kind, 0, 0, 0, 1), kind);
        }
        Check.outOfBounds("kind 6", () -> x.rule(6, 0, 0, 0, 1));
    }

    private static void things() {
        Doc.terms("THINGS, at most 40, have a class, a layer, and a place (coordinates -1,000,000 .. 1,000,000).");
        RuleChoice x = new RuleChoice(1);
        long[] places = {-FAR, 1 - FAR, -1, 0, 1, FAR - 1, FAR};
        int count = 0;
        for (long c : places) {
            Check.due("x " + c, x.thing(0, 0, c, 0), count++);
            Check.due("y " + c, x.thing(0, 0, 0, c), count++);
        }
        for (long c : new long[] {-FAR - 1, FAR + 1}) {
            Check.illegal("x " + c, () -> x.thing(0, 0, c, 0));
            Check.illegal("y " + c, () -> x.thing(0, 0, 0, c));
        }
        while (count < 39) {
            x.thing(0, 0, 0, 0);
            count++;
        }
        Check.due("the 40th thing", x.thing(0, 0, 0, 0), 39);
        Check.due("the 41st thing", x.thing(0, 0, 0, 0), NONE);
        Check.due("a class, a layer, a place of the 40th", x.make(39, 0, 0) || x.move(39, 0, 0), false);
    }

    private static void areas() {
        Doc.terms("AREAS, at most 12, are rectangles;");
        RuleChoice x = new RuleChoice(1);
        for (int i = 0; i < 11; i++) {
            x.area(0, 0, 0, 0);
        }
        Check.due("the 12th area", x.area(5, 5, 6, 6), 11);
        Check.due("the 13th area", x.area(7, 7, 8, 8), NONE);
        x.rule(0, NONE, NONE, NONE, 1);
        x.inArea(0, 11);
        x.thing(0, 0, 5, 6);
        Check.due("in the 12th area", x.winner(0, 0, 0), 0);
        x.move(0, 7, 7);
        Check.due("where the 13th would be", x.winner(0, 0, 0), NONE);
    }

    private static void borders() {
        Doc.terms("a place on the border lies in it.");
        border(-2, 10, 4, 20);
        border(0, 0, 0, 0);
        border(3, -8, 3, -2);
        border(-5, 9, 5, 9);
        border(-FAR + 1, -FAR + 1, FAR - 1, FAR - 1);
        corners(-FAR, -FAR, FAR, FAR);
    }

    private static void border(long x0, long y0, long x1, long y1) {
        corners(x0, y0, x1, y1);
        RuleChoice x = inOneArea(x0, y0, x1, y1);
        lies(x, x0, y0 + (y1 - y0) / 2, true);
        lies(x, x1, y0 + (y1 - y0) / 2, true);
        lies(x, x0 + (x1 - x0) / 2, y0, true);
        lies(x, x0 + (x1 - x0) / 2, y1, true);
        for (long y : new long[] {y0, y1}) {
            lies(x, x0 - 1, y, false);
            lies(x, x1 + 1, y, false);
        }
        for (long c : new long[] {x0, x1}) {
            lies(x, c, y0 - 1, false);
            lies(x, c, y1 + 1, false);
        }
    }

    private static void corners(long x0, long y0, long x1, long y1) {
        RuleChoice x = inOneArea(x0, y0, x1, y1);
        lies(x, x0, y0, true);
        lies(x, x0, y1, true);
        lies(x, x1, y0, true);
        lies(x, x1, y1, true);
    }

    private static RuleChoice inOneArea(long x0, long y0, long x1, long y1) {
        RuleChoice x = new RuleChoice(1);
        x.area(x0, y0, x1, y1);
        x.rule(0, NONE, NONE, NONE, 1);
        x.inArea(0, 0);
        x.thing(0, 0, x0, y0);
        return x;
    }

    private static void lies(RuleChoice x, long atX, long atY, boolean in) {
        x.move(0, atX, atY);
        Check.due("the winner at " + atX + ", " + atY, x.winner(0, 0, 0), in ? 0 : NONE);
        Check.due("why at " + atX + ", " + atY, x.why(0, 0, 0, 0), in ? 0 : 4);
    }

    private static void rules() {
        Doc.terms("RULES, at most 40, have a kind, two classes, or NONE (any), a layer, or NONE (any), "
                + "a value 0 .. 1,000,000, a RANK (at first 0), and an area, or none (at first).");
        RuleChoice x = new RuleChoice(2);
        x.thing(0, 0, FAR, FAR);
        x.area(0, 0, 1, 1);
        Check.due("value 0", x.rule(0, 0, 0, 0, 0), 0);
        Check.due("value 1", x.rule(1, NONE, 0, 0, 1), 1);
        Check.due("value 999,999", x.rule(2, 0, NONE, 0, FAR - 1), 2);
        Check.due("value 1,000,000", x.rule(3, 0, 0, NONE, FAR), 3);
        Check.illegal("value -1", () -> x.rule(0, 0, 0, 0, -1));
        Check.illegal("value 1,000,001", () -> x.rule(0, 0, 0, 0, FAR + 1));
        long[] values = {0, 1, FAR - 1, FAR};
        for (int i = 0; i < 4; i++) {
            Check.due("the value of rule " + i, x.value(i, 0, 0), values[i]);
            Check.due("a RANK at first other than 0, rule " + i, x.rank(i, 0), false);
            Check.due("an area at first, rule " + i, x.inArea(i, NONE), false);
        }
        for (int i = 4; i < 39; i++) {
            x.rule(4, NONE, NONE, NONE, i);
        }
        Check.due("the 40th rule", x.rule(4, NONE, NONE, NONE, 8), 39);
        Check.due("the 41st rule", x.rule(4, NONE, NONE, NONE, 9), NONE);
        Check.due("the value after the 41st", x.value(4, 0, 0), 8);
        Check.due("RANK 1 of a new rule is another", x.rank(39, 1), true);
        Check.due("area 0 of a new rule is another", x.inArea(39, 0), true);
    }

    private static void matches() {
        Doc.terms("A rule MATCHES two things (it may be one thing twice) for a kind if it is of that kind,");
        RuleChoice x = new RuleChoice(3);
        x.thing(1, 0, 0, 0);
        x.rule(2, 1, 1, NONE, 1);
        for (int kind = 0; kind <= 5; kind++) {
            Check.due("kind " + kind, x.winner(kind, 0, 0), kind == 2 ? 0 : NONE);
        }
        x.rule(0, 1, 2, NONE, 1);
        Check.due("one thing twice is not of two classes", x.winner(0, 0, 0), NONE);
        x.rule(0, 0, 1, NONE, 1);
        Check.due("nor the other way round", x.winner(0, 0, 0), NONE);
        x.rule(0, NONE, 1, NONE, 1);
        Check.due("one thing twice, of any class and of its own", x.winner(0, 0, 0), 3);
    }

    private static void matchesByClass() {
        Doc.terms("one of both is of its first class and the other one of its second (either way round),");
        RuleChoice x = new RuleChoice(16);
        int[] classes = {0, 1, 14, 15};
        for (int cls : classes) {
            x.thing(cls, 0, 0, 0);
        }
        x.rule(0, 0, 15, NONE, 1);
        x.rule(1, 15, 0, NONE, 1);
        x.rule(2, 15, 15, NONE, 1);
        x.rule(3, NONE, 15, NONE, 1);
        x.rule(4, 0, NONE, NONE, 1);
        x.rule(5, NONE, NONE, NONE, 1);
        for (int a = 0; a < 4; a++) {
            for (int b = 0; b < 4; b++) {
                boolean firstAndLast = (a == 0 && b == 3) || (a == 3 && b == 0);
                boolean aLast = a == 3 || b == 3;
                boolean aFirst = a == 0 || b == 0;
                boolean[] due = {firstAndLast, firstAndLast, a == 3 && b == 3, aLast, aFirst, true};
                for (int kind = 0; kind < due.length; kind++) {
                    String call = "winner(" + kind + ", " + a + ", " + b + ")";
                    Check.due(call, x.winner(kind, a, b), due[kind] ? kind : NONE);
                }
            }
        }
    }

    private static void matchesByLayer() {
        Doc.terms("both are on its layer,");
        RuleChoice x = new RuleChoice(1);
        for (int layer = 0; layer < 8; layer++) {
            x.thing(0, layer, 0, 0);
        }
        int[] layers = {0, 4, 7, NONE};
        for (int kind = 0; kind < layers.length; kind++) {
            x.rule(kind, NONE, NONE, layers[kind], 1);
        }
        for (int a = 0; a < 8; a++) {
            for (int b = 0; b < 8; b++) {
                onLayers(x, layers, a, b);
            }
        }
    }

    /** A thing's number is its layer. */
    private static void onLayers(RuleChoice x, int[] layers, int a, int b) {
        for (int kind = 0; kind < layers.length; kind++) {
            boolean both = layers[kind] == NONE || (layers[kind] == a && layers[kind] == b);
            Check.due("layer " + layers[kind] + " for " + a + ", " + b, x.winner(kind, a, b), both ? kind : NONE);
        }
    }

    private static void matchesByArea() {
        Doc.terms("and both lie in its area.");
        RuleChoice x = new RuleChoice(1);
        x.area(0, 0, 5, 5);
        x.thing(0, 0, 5, 5);
        x.thing(0, 0, 0, 0);
        x.thing(0, 0, 6, 5);
        x.thing(0, 0, 0, -1);
        x.rule(0, NONE, NONE, NONE, 1);
        Check.due("both outside, no area", x.winner(0, 2, 3), 0);
        x.inArea(0, 0);
        for (int a = 0; a < 4; a++) {
            for (int b = 0; b < 4; b++) {
                boolean both = a < 2 && b < 2;
                Check.due("winner(0, " + a + ", " + b + ")", x.winner(0, a, b), both ? 0 : NONE);
            }
        }
    }

    private static void winner() {
        Doc.terms("The WINNER of those that match is the one with the greatest RANK, "
                + "of the same RANK the one told last.");
        ranked(0, 0, 1);
        ranked(1, 0, 0);
        ranked(0, -1, 0);
        ranked(-1, 0, 1);
        ranked(0, 1, 1);
        ranked(1000, 999, 0);
        ranked(999, 1000, 1);
        ranked(1000, 1000, 1);
        ranked(-999, -1000, 0);
        ranked(-1000, -999, 1);
        ranked(-1000, -1000, 1);
        ranked(1000, -1000, 0);
        ranked(-1000, 1000, 1);
        RuleChoice x = new RuleChoice(2);
        x.thing(0, 0, 0, 0);
        x.rule(0, 0, 0, NONE, 1);
        x.rule(0, 1, 1, NONE, 1);
        x.rule(1, 0, 0, NONE, 1);
        x.rank(1, 1000);
        x.rank(2, 1000);
        Check.due("of those that match alone", x.winner(0, 0, 0), 0);
    }

    private static void ranked(int first, int second, int due) {
        String call = "the winner of RANKS " + first + ", " + second;
        Check.due(call, ranks(first, second, true).winner(0, 0, 0), due);
        Check.due(call + ", told the other way round", ranks(first, second, false).winner(0, 0, 0), due);
    }

    /** Two rules for all; which of them was ranked last must not matter, only which was told last. */
    private static RuleChoice ranks(int first, int second, boolean firstFirst) {
        RuleChoice x = new RuleChoice(1);
        x.thing(0, 0, 0, 0);
        x.rule(0, NONE, NONE, NONE, 9);
        x.rule(0, NONE, NONE, NONE, 3);
        x.rank(firstFirst ? 0 : 1, firstFirst ? first : second);
        x.rank(firstFirst ? 1 : 0, firstFirst ? second : first);
        return x;
    }

    private static void kept() {
        Doc.terms("KEPT answers: an answer of winner(), also that there is none, is KEPT for its kind and these "
                + "two things (either way round is the same) until it is DROPPED.");
        RuleChoice x = new RuleChoice(1);
        x.thing(0, 0, 0, 0);
        x.thing(0, 1, 0, 0);
        x.rule(0, NONE, NONE, 0, 1);
        counts(x, 0, 0, "before the first answer");
        Check.due("the first answer", x.winner(0, 0, 0), 0);
        counts(x, 1, 0, "the first answer");
        Check.due("that there is none", x.winner(0, 0, 1), NONE);
        counts(x, 2, 0, "that there is none");
        Check.due("the other way round", x.winner(0, 1, 0), NONE);
        counts(x, 2, 1, "the other way round");
        Check.due("again", x.winner(0, 0, 0), 0);
        counts(x, 2, 2, "again");
        x.rank(0, 1);
        counts(x, 0, 2, "dropped");
        Check.due("after it was dropped", x.winner(0, 0, 0), 0);
        counts(x, 1, 2, "after it was dropped");
    }

    /** The corners of all that can be kept: lowest and highest kinds and things. */
    private static void keptApart() {
        RuleChoice x = forty();
        int[][] two = {{0, 0}, {0, 1}, {1, 1}, {0, 39}, {38, 38}, {38, 39}, {39, 39}};
        int keys = 0;
        for (int kind = 0; kind <= 5; kind++) {
            for (int[] t : two) {
                x.winner(kind, t[0], t[1]);
                counts(x, ++keys, 0, "kind " + kind + ", " + t[0] + ", " + t[1]);
            }
        }
        int found = 0;
        for (int kind = 0; kind <= 5; kind++) {
            for (int[] t : two) {
                x.winner(kind, t[1], t[0]);
                counts(x, keys, ++found, "again kind " + kind + ", " + t[1] + ", " + t[0]);
            }
        }
    }

    private static RuleChoice forty() {
        RuleChoice x = new RuleChoice(2);
        for (int i = 0; i < 40; i++) {
            x.thing(0, 0, i, 0);
        }
        return x;
    }

    private static void ruleDrops() {
        Doc.terms("When a rule is told, or its RANK or area becomes another one, "
                + "all KEPT answers of its kind are DROPPED.");
        for (int kind = 0; kind <= 5; kind++) {
            RuleChoice x = forty();
            x.area(0, 0, 0, 0);
            x.area(0, 0, 0, 0);
            fill(x);
            x.rule(kind, 1, 1, 7, 0);
            dropped(x, kind, "a rule that matches none");
            x.rank(0, 1);
            dropped(x, kind, "RANK 1");
            x.rank(0, 0);
            dropped(x, kind, "RANK 0 again");
            x.inArea(0, 0);
            dropped(x, kind, "an area");
            x.inArea(0, 1);
            dropped(x, kind, "another area, as large");
            x.inArea(0, NONE);
            dropped(x, kind, "no area");
        }
    }

    /** Keeps the first and the last answer of each kind and one between: 18. */
    private static void fill(RuleChoice x) {
        for (int kind = 0; kind <= 5; kind++) {
            fill(x, kind);
        }
    }

    private static void fill(RuleChoice x, int kind) {
        x.winner(kind, 0, 0);
        x.winner(kind, 20, 0);
        x.winner(kind, 39, 39);
    }

    /** Three answers are gone, and they are those of that kind: asked again, none of them is found. */
    private static void dropped(RuleChoice x, int kind, String by) {
        long before = x.spared();
        counts(x, 15, before, by + ", kind " + kind);
        fill(x, kind);
        counts(x, 18, before, "asked anew after " + by + ", kind " + kind);
    }

    private static void thingDrops() {
        Doc.terms("When a thing's class or layer becomes another one,");
        for (int thing : new int[] {0, 1, 38, 39}) {
            RuleChoice x = forty();
            star(x, thing);
            x.make(thing, 1, 0);
            starDropped(x, thing, "another class");
            x.make(thing, 1, 7);
            starDropped(x, thing, "another layer");
            x.make(thing, 0, 0);
            starDropped(x, thing, "both others");
        }
    }

    /** Keeps three answers with the thing for each of the kinds 0 and 5, and one without it for each. */
    private static void star(RuleChoice x, int thing) {
        for (int kind : new int[] {0, 5}) {
            x.winner(kind, thing, 39 - thing);
            x.winner(kind, 20, thing);
            x.winner(kind, thing, thing);
            x.winner(kind, 20, 39 - thing);
        }
    }

    /** Six of eight are gone; when all are asked again, just the two without the thing are found. */
    private static void starDropped(RuleChoice x, int thing, String by) {
        long before = x.spared();
        counts(x, 2, before, by + " of thing " + thing);
        star(x, thing);
        counts(x, 8, before + 2, "asked anew after " + by + " of thing " + thing);
    }

    private static void moveDrops() {
        Doc.terms("or it is moved so that it lies in an area in which it did not lie, or the other way round, "
                + "all KEPT answers with this thing are DROPPED.");
        for (int thing : new int[] {0, 39}) {
            RuleChoice x = forty();
            x.area(100, 100, 110, 110);
            x.area(110, 110, 120, 120);
            x.area(100, 100, 110, 110);
            x.move(thing, 99, 105);
            star(x, thing);
            moved(x, thing, 100, 105, true);
            moved(x, thing, 101, 105, false);
            moved(x, thing, 110, 105, false);
            moved(x, thing, 111, 105, true);
            moved(x, thing, 110, 100, true);
            moved(x, thing, 110, 99, true);
            moved(x, thing, 105, 99, false);
            moved(x, thing, 105, 110, true);
            moved(x, thing, 105, 111, true);
            moved(x, thing, 110, 110, true);
            moved(x, thing, 109, 110, true);
            moved(x, thing, 110, 110, true);
            moved(x, thing, 110, 111, true);
            moved(x, thing, 109, 109, true);
            moved(x, thing, 111, 111, true);
            moved(x, thing, 121, 120, true);
            moved(x, thing, FAR, -FAR, false);
        }
    }

    private static void moved(RuleChoice x, int thing, long toX, long toY, boolean drops) {
        Check.due("move to " + toX + ", " + toY, x.move(thing, toX, toY), true);
        String to = "the move to " + toX + ", " + toY;
        if (drops) {
            starDropped(x, thing, to);
        } else {
            Check.due("kept after " + to, x.kept(), 8);
        }
    }

    private static void nothingElseDrops() {
        Doc.terms("Nothing else DROPS one.");
        RuleChoice x = forty();
        x.area(0, 0, 100, 0);
        x.rule(0, 0, 0, NONE, 50);
        x.rank(0, 2);
        x.inArea(0, 0);
        fill(x);
        x.rank(0, 2);
        stays(x, "the same RANK");
        x.inArea(0, 0);
        stays(x, "the same area");
        x.make(39, 0, 0);
        stays(x, "the same class and layer");
        x.move(39, 39, 0);
        stays(x, "the same place");
        x.move(39, 40, 0);
        x.move(39, 100, 0);
        stays(x, "moves within the area");
        x.make(5, 1, 7);
        x.move(6, 0, 1);
        stays(x, "things without answers");
        x.thing(0, 0, 0, 0);
        stays(x, "a 41st thing");
        x.winner(0, 0, 0);
        x.value(5, 39, 39);
        x.listed(0, 39, 39, 0);
        x.why(0, 39, 39, 0);
        x.greatest(0, 0);
        x.close(0);
        x.pair(0, 0);
        x.spared();
        stays(x, "calls that only ask");
        fullTablesDropNothing(x);
    }

    private static void fullTablesDropNothing(RuleChoice x) {
        for (int i = 1; i < 12; i++) {
            x.area(39, 0, 200, 200);
        }
        x.area(39, 0, 200, 200);
        stays(x, "new areas and a 13th");
        for (int i = 1; i < 40; i++) {
            x.rule(1, NONE, NONE, NONE, i);
        }
        fill(x, 1);
        stays(x, "39 rules of kind 1, asked anew");
        x.rule(1, NONE, NONE, NONE, 0);
        stays(x, "a 41st rule");
        Check.due("the winner after the 41st rule", x.winner(1, 0, 0), 39);
    }

    private static void stays(RuleChoice x, String after) {
        Check.due("kept() after " + after, x.kept(), 18);
    }

    private static void refusedCallsDropNothing() {
        RuleChoice x = forty();
        x.area(0, 0, 100, 0);
        x.rule(0, 0, 0, NONE, 50);
        fill(x);
        Check.outOfBounds("rule on no layer", () -> x.rule(0, 0, 0, 8, 1));
        Check.illegal("rule of no value", () -> x.rule(0, 0, 0, 0, -1));
        Check.illegal("no RANK", () -> x.rank(0, 1001));
        Check.outOfBounds("no area", () -> x.inArea(0, 1));
        Check.outOfBounds("another class on no layer", () -> x.make(0, 1, 8));
        Check.outOfBounds("another layer of no class", () -> x.make(39, 2, 1));
        Check.illegal("out of the area to no place in y", () -> x.move(0, 101, FAR + 1));
        Check.illegal("out of the area to no place in x", () -> x.move(0, -FAR - 1, 1));
        Check.outOfBounds("winner of no thing", () -> x.winner(0, 0, 40));
        Check.outOfBounds("close of no kind", () -> x.close(6));
        stays(x, "refused calls");
    }

    private static void newArea() {
        Doc.terms("(A new area holds for no rule yet.)");
        RuleChoice x = new RuleChoice(1);
        x.thing(0, 0, 50, 50);
        x.rule(0, NONE, NONE, NONE, 1);
        x.winner(0, 0, 0);
        x.area(0, 0, 1, 1);
        counts(x, 1, 0, "an area beside the thing");
        Check.due("the winner outside the new area", x.winner(0, 0, 0), 0);
        x.area(50, 50, 50, 50);
        counts(x, 1, 1, "an area round the thing");
        Check.due("the winner inside the new area", x.winner(0, 0, 0), 0);
        Check.due("why, outside area 0", x.why(0, 0, 0, 0), 0);
        Check.due("the rule's area is none", x.inArea(0, NONE), false);
        x.rule(0, NONE, NONE, NONE, 2);
        Check.due("the winner is a rule told after the areas", x.winner(0, 0, 0), 1);
        Check.due("its area is none", x.inArea(1, NONE), false);
    }

    private static void none() {
        Doc.terms("The constants: `NONE = -1`: There is none; any.");
        Check.due("NONE", RuleChoice.NONE, -1);
        RuleChoice x = new RuleChoice(2);
        x.thing(1, 7, FAR, -FAR);
        x.area(0, 0, 0, 0);
        Check.due("there is none", x.winner(0, 0, 0), -1);
        x.rule(0, -1, -1, -1, 4);
        x.inArea(0, 0);
        x.inArea(0, -1);
        Check.due("any class, any layer, no area", x.winner(0, 0, 0), 0);
    }

    private static void counts(RuleChoice x, int kept, long spared, String when) {
        Check.due("kept(): " + when, x.kept(), kept);
        Check.due("spared(): " + when, x.spared(), spared);
    }
}
