/** The sentences of promises 9 to 17, each at its boundary, one below it and one above it. */
final class AskingEdges {
    private static final int NONE = RuleChoice.NONE;
    private static final int MIN = Integer.MIN_VALUE;
    private static final int MAX = Integer.MAX_VALUE;
    private static final long FAR = 1_000_000L;
    private static final int[] NO_KINDS = {-1, 6, MIN, MAX};

    private AskingEdges() {
    }

    static void run() {
        winner();
        winnerRefused();
        value();
        valueKeeps();
        valueRefused();
        listed();
        listedRefused();
        why();
        whyTheFirst();
        whyRefused();
        greatest();
        greatestRefused();
        closeOfTwo();
        closeOfSquares();
        closeDifferentOnOneLayer();
        closeKeepsNothing();
        closeRefused();
        pair();
        pairOfTheLatest();
        pairRefused();
        kept();
        spared();
        last();
    }

    /** A call that asks for a kind and two things. */
    private interface Ask {
        void of(RuleChoice x, int kind, int a, int b);
    }

    /** No such kind, no such first thing, no such second thing: each throws and changes nothing. */
    private static void refuses(String name, Ask ask) {
        for (Scene scene : Scene.values()) {
            for (int thing : new int[] {-1, scene.things, MIN, MAX}) {
                refuse(scene, name, ask, 0, thing, 0);
                refuse(scene, name, ask, 5, 0, thing);
                refuse(scene, name, ask, 1, thing, thing);
            }
            for (int kind : NO_KINDS) {
                refuse(scene, name, ask, kind, 0, 0);
                refuse(scene, name, ask, kind, scene.things - 1, 0);
            }
        }
    }

    private static void refuse(Scene scene, String name, Ask ask, int kind, int a, int b) {
        scene.outOfBounds(name + "(" + kind + ", " + a + ", " + b + ")", x -> ask.of(x, kind, a, b));
    }

    /** So many things of class 0 at one place of layer 0. */
    private static RuleChoice heap(int things) {
        RuleChoice x = new RuleChoice(1);
        for (int i = 0; i < things; i++) {
            x.thing(0, 0, 0, 0);
        }
        return x;
    }

    private static void ruleForAll(RuleChoice x, int kind, long v) {
        x.rule(kind, NONE, NONE, NONE, v);
    }

    private static void winner() {
        Doc.promise(9, "The WINNER for a kind and two things; NONE without.");
        RuleChoice x = heap(40);
        Check.due("without rules", x.winner(0, 0, 39), NONE);
        ruleForAll(x, 1, 1);
        Check.due("without a rule of the kind", x.winner(0, 0, 39), NONE);
        ruleForAll(x, 0, 1);
        Check.due("with one", x.winner(0, 0, 39), 1);
        for (int i = 2; i < 40; i++) {
            ruleForAll(x, i % 6, 1);
        }
        int[] due = {36, 37, 38, 39, 34, 35};
        for (int kind = 0; kind <= 5; kind++) {
            Check.due("of forty, kind " + kind, x.winner(kind, 39, 39), due[kind]);
            Check.due("of forty, asked again, kind " + kind, x.winner(kind, 39, 39), due[kind]);
        }
    }

    private static void winnerRefused() {
        Doc.promise(9, "IndexOutOfBoundsException, when there is no such kind, or thing.");
        RuleChoice x = heap(2);
        Check.due("the lowest kind and thing", x.winner(0, 0, 0), NONE);
        Check.due("the highest kind and thing", x.winner(5, 1, 1), NONE);
        refuses("winner", RuleChoice::winner);
    }

    private static void value() {
        Doc.promise(10, "The value of that WINNER; NONE without.");
        RuleChoice x = heap(1);
        Check.due("without rules", x.value(0, 0, 0), NONE);
        ruleForAll(x, 0, 0);
        Check.due("the least", x.value(0, 0, 0), 0);
        ruleForAll(x, 0, FAR);
        Check.due("the greatest", x.value(0, 0, 0), FAR);
        ruleForAll(x, 0, 1);
        Check.due("told last", x.value(0, 0, 0), 1);
        x.rank(0, 1);
        Check.due("of the greatest RANK", x.value(0, 0, 0), 0);
        Check.due("of the greatest RANK, kept", x.value(0, 0, 0), 0);
    }

    private static void valueKeeps() {
        Doc.promise(10, "(KEEPS as winner() does.)");
        RuleChoice x = heap(2);
        ruleForAll(x, 0, 4);
        x.value(0, 0, 1);
        counts(x, 1, 0, "value() keeps");
        x.winner(0, 1, 0);
        counts(x, 1, 1, "winner() finds what value() kept");
        x.value(0, 1, 0);
        counts(x, 1, 2, "value() finds it");
        x.value(1, 0, 0);
        counts(x, 2, 2, "value() keeps that there is none");
        Check.due("winner() after it", x.winner(1, 0, 0), NONE);
        counts(x, 2, 3, "winner() finds that there is none");
        Check.due("value() after it", x.value(1, 0, 0), NONE);
        counts(x, 2, 4, "value() finds that there is none");
    }

    private static void valueRefused() {
        Doc.promise(10, "IndexOutOfBoundsException likewise.");
        refuses("value", RuleChoice::value);
    }

    private static void listed() {
        Doc.promise(11, "The k-th rule that MATCHES, from the WINNER on, in the order in which they would win; "
                + "NONE, when there are not so many (or k is below 0).");
        RuleChoice x = heap(1);
        Check.due("k 0 of none", x.listed(0, 0, 0, 0), NONE);
        ruleForAll(x, 0, 1);
        list(x, 0);
        ruleForAll(x, 1, 1);
        list(x, 0);
        ruleForAll(x, 0, 1);
        list(x, 2, 0);
        x.rank(0, -1000);
        list(x, 2, 0);
        x.rank(2, -1000);
        list(x, 2, 0);
        x.rank(0, -999);
        list(x, 0, 2);
        ruleForAll(x, 0, 1);
        list(x, 3, 0, 2);
        x.rank(2, 1000);
        list(x, 2, 3, 0);
        x.rank(3, 1000);
        list(x, 3, 2, 0);
        Check.due("the first is the winner", x.listed(0, 0, 0, 0), x.winner(0, 0, 0));
        counts(x, 1, 0, "listed() neither keeps nor finds");
        listedOfForty();
    }

    /** These and no more, and none below the first. */
    private static void list(RuleChoice x, int... due) {
        Check.due("k -1 of " + due.length, x.listed(0, 0, 0, -1), NONE);
        for (int k = 0; k < due.length; k++) {
            Check.due("k " + k + " of " + due.length, x.listed(0, 0, 0, k), due[k]);
        }
        Check.due("k one above the last of " + due.length, x.listed(0, 0, 0, due.length), NONE);
        Check.due("the least k", x.listed(0, 0, 0, MIN), NONE);
        Check.due("the greatest k", x.listed(0, 0, 0, MAX), NONE);
    }

    private static void listedOfForty() {
        RuleChoice x = heap(1);
        for (int i = 0; i < 40; i++) {
            ruleForAll(x, 0, 1);
            x.rank(i, i % 2 == 0 ? 1 : 0);
        }
        int[] due = new int[40];
        for (int i = 0; i < 20; i++) {
            due[i] = 38 - 2 * i;
            due[20 + i] = 39 - 2 * i;
        }
        list(x, due);
    }

    private static void listedRefused() {
        Doc.promise(11, "IndexOutOfBoundsException likewise.");
        refuses("listed with k 0", (x, kind, a, b) -> x.listed(kind, a, b, 0));
        refuses("listed with k -1", (x, kind, a, b) -> x.listed(kind, a, b, -1));
        refuses("listed with k 40", (x, kind, a, b) -> x.listed(kind, a, b, 40));
    }

    private static void why() {
        Doc.promise(12, "Why a rule is not the WINNER, the first of these that is so: 1 it is of another kind, "
                + "2 its classes do not match, 3 its layer, 4 its area, 5 its RANK is below the WINNER's, "
                + "6 it was told earlier; 0, when it is.");
        RuleChoice x = heap(1);
        ruleForAll(x, 0, 1);
        Check.due("it is", x.why(0, 0, 0, 0), 0);
        Check.due("a kind without a winner", x.why(1, 0, 0, 0), 1);
        ruleForAll(x, 0, 1);
        whyOfBoth(x, 6, 0, "of the same RANK");
        x.rank(0, 1);
        whyOfBoth(x, 0, 5, "RANKS 1, 0");
        x.rank(1, 2);
        whyOfBoth(x, 5, 0, "RANKS 1, 2");
        x.rank(1, 1);
        whyOfBoth(x, 6, 0, "RANKS 1, 1");
        x.rank(0, -1000);
        x.rank(1, -999);
        whyOfBoth(x, 5, 0, "RANKS -1000, -999");
        x.rank(1, -1000);
        whyOfBoth(x, 6, 0, "RANKS -1000, -1000");
        x.rank(0, 1000);
        whyOfBoth(x, 0, 5, "RANKS 1000, -1000");
        counts(x, 0, 0, "why() neither keeps nor finds");
    }

    private static void whyOfBoth(RuleChoice x, int first, int second, String when) {
        Check.due("the first " + when, x.why(0, 0, 0, 0), first);
        Check.due("the second " + when, x.why(0, 0, 0, 1), second);
    }

    /** Rule 0 has every fault; they are mended one by one, so each is told only when it is the first. */
    private static void whyTheFirst() {
        for (boolean withBetter : new boolean[] {true, false}) {
            RuleChoice x = new RuleChoice(3);
            x.area(5, 5, 6, 6);
            x.thing(0, 0, 5, 5);
            x.thing(2, 1, 7, 6);
            x.rule(3, 1, 2, 1, 1);
            x.inArea(0, 0);
            x.rank(0, -1);
            if (withBetter) {
                ruleForAll(x, 3, 1);
            }
            whyEitherWay(x, 2, 1, "kind 2");
            whyEitherWay(x, 4, 1, "kind 4");
            whyEitherWay(x, 3, 2, "no class");
            x.make(0, 1, 0);
            whyEitherWay(x, 3, 3, "no layer of the first");
            x.make(0, 1, 1);
            x.make(1, 2, 2);
            whyEitherWay(x, 3, 3, "no layer of the second");
            x.make(1, 2, 1);
            whyEitherWay(x, 3, 4, "no place of the second");
            x.move(0, 4, 5);
            x.move(1, 6, 6);
            whyEitherWay(x, 3, 4, "no place of the first");
            x.move(0, 5, 5);
            whyEitherWay(x, 3, withBetter ? 5 : 0, "below in RANK");
            x.rank(0, 0);
            whyEitherWay(x, 3, withBetter ? 6 : 0, "told earlier");
            x.rank(0, 1);
            whyEitherWay(x, 3, 0, "nothing");
        }
    }

    private static void whyEitherWay(RuleChoice x, int kind, int due, String when) {
        Check.due("why, " + when, x.why(kind, 0, 1, 0), due);
        Check.due("why the other way round, " + when, x.why(kind, 1, 0, 0), due);
    }

    private static void whyRefused() {
        Doc.promise(12, "IndexOutOfBoundsException likewise, also when there is no such rule.");
        refuses("why of rule 0", (x, kind, a, b) -> x.why(kind, a, b, 0));
        refuses("why of rule 40", (x, kind, a, b) -> x.why(kind, a, b, 40));
        for (Scene scene : Scene.values()) {
            for (int rule : new int[] {-1, scene.rules, MIN, MAX}) {
                refuse(scene, "why of rule " + rule, (x, kind, a, b) -> x.why(kind, a, b, rule), 0, 0, 0);
            }
        }
        RuleChoice x = heap(1);
        for (int i = 0; i < 40; i++) {
            ruleForAll(x, 0, 1);
        }
        Check.due("of the first rule", x.why(0, 0, 0, 0), 6);
        Check.due("of the last but one", x.why(0, 0, 0, 38), 6);
        Check.due("of the last rule", x.why(0, 0, 0, 39), 0);
    }

    private static void greatest() {
        Doc.promise(13, "The greatest value of the rules of a kind that are for a layer, or any; "
                + "NONE, when there are none.");
        RuleChoice x = new RuleChoice(2);
        x.rule(2, 1, 1, 0, 0);
        for (int kind = 0; kind <= 5; kind++) {
            Check.due("kind " + kind + ", layer 0", x.greatest(kind, 0), kind == 2 ? 0 : NONE);
            Check.due("kind " + kind + ", layer 1", x.greatest(kind, 1), NONE);
        }
        x.rule(2, NONE, NONE, 7, FAR);
        greatestOfTwo(x, 0, NONE, FAR);
        x.rule(2, 0, NONE, NONE, 5);
        greatestOfTwo(x, 5, 5, FAR);
        x.rule(2, 0, NONE, 0, 6);
        x.rule(2, 0, NONE, 0, 4);
        greatestOfTwo(x, 6, 5, FAR);
        x.rank(4, 1000);
        x.area(9, 9, 9, 9);
        x.inArea(3, 0);
        greatestOfTwo(x, 6, 5, FAR);
        counts(x, 0, 0, "greatest() keeps nothing");
        greatestOfForty();
    }

    private static void greatestOfTwo(RuleChoice x, long first, long between, long last) {
        Check.due("layer 0", x.greatest(2, 0), first);
        Check.due("layer 1", x.greatest(2, 1), between);
        Check.due("layer 6", x.greatest(2, 6), between);
        Check.due("layer 7", x.greatest(2, 7), last);
    }

    private static void greatestOfForty() {
        RuleChoice x = new RuleChoice(1);
        for (int i = 0; i < 40; i++) {
            x.rule(0, NONE, NONE, NONE, i);
        }
        Check.due("of forty", x.greatest(0, 3), 39);
        Check.due("the 41st rule", x.rule(0, NONE, NONE, NONE, 99), NONE);
        Check.due("of forty, after the 41st", x.greatest(0, 3), 39);
    }

    private static void greatestRefused() {
        Doc.promise(13, "IndexOutOfBoundsException, when there is no such kind, or layer.");
        for (Scene scene : Scene.values()) {
            for (int kind : NO_KINDS) {
                scene.outOfBounds("greatest(" + kind + ", 0)", x -> x.greatest(kind, 0));
                scene.outOfBounds("greatest(" + kind + ", 8)", x -> x.greatest(kind, 8));
            }
            for (int layer : new int[] {-1, 8, MIN, MAX}) {
                scene.outOfBounds("greatest(0, " + layer + ")", x -> x.greatest(0, layer));
                scene.outOfBounds("greatest(5, " + layer + ")", x -> x.greatest(5, layer));
            }
        }
    }

    private static void closeOfTwo() {
        Doc.promise(14, "How many two different things on one layer are TOO NEAR for a kind: there is a WINNER "
                + "for them, and the square of their distance is below that of its value.");
        RuleChoice x = heap(2);
        Check.due("without a winner", x.close(0), 0);
        ruleForAll(x, 0, 0);
        Check.due("value 0 at one place", x.close(0), 0);
        ruleForAll(x, 0, 1);
        Check.due("value 1 at one place", x.close(0), 1);
        near(x, 1, 0, 0, "value 1 at distance 1");
        near(x, 0, -1, 0, "value 1 at distance 1 in y");
        ruleForAll(x, 0, 5);
        near(x, 3, 4, 0, "the square of 5 is 9 and 16");
        near(x, 3, 3, 1, "9 and 9 are below it");
        near(x, -4, -3, 0, "16 and 9 to the other side");
        near(x, -2, -4, 1, "4 and 16 are below it");
        near(x, 4, 4, 0, "16 and 16 are above it");
        near(x, 1, 5, 0, "1 and 25 are above it");
        near(x, 0, 5, 0, "25 is just it");
        near(x, 0, 4, 1, "16 is below it");
        x.rank(1, 1);
        Check.due("the winner's value counts, not the greatest", x.close(0), 0);
        x.rank(2, 2);
        Check.due("the winner's value, the greatest", x.close(0), 1);
        Check.due("another kind", x.close(1), 0);
    }

    private static void near(RuleChoice x, long toX, long toY, int due, String when) {
        x.move(1, toX, toY);
        Check.due("close, " + when, x.close(0), due);
    }

    /** Squares that a 32-bit number does not hold. */
    private static void closeOfSquares() {
        RuleChoice x = heap(2);
        ruleForAll(x, 0, 1);
        near(x, 65_536, 0, 0, "value 1, 65,536 in x");
        near(x, 65_536, 65_536, 0, "value 1, 65,536 in both");
        near(x, 46_341, 0, 0, "value 1, 46,341 in x");
        ruleForAll(x, 0, 46_341);
        near(x, 46_340, 0, 1, "value 46,341, one below");
        near(x, 46_341, 0, 0, "value 46,341, just it");
        ruleForAll(x, 0, 65_536);
        near(x, 65_535, 0, 1, "value 65,536, one below");
        near(x, 65_536, 0, 0, "value 65,536, just it");
        ruleForAll(x, 0, FAR);
        near(x, FAR - 1, 0, 1, "the greatest value, one below");
        near(x, FAR - 1, 1_414, 1, "the greatest value, the last step in y below it");
        near(x, FAR - 1, 1_415, 0, "the greatest value, the first step in y above it");
        near(x, 600_000, 800_000, 0, "the greatest value, just it");
        near(x, 600_000, 799_999, 1, "the greatest value, one below in y");
        near(x, -FAR, 0, 0, "the greatest value, just it in x");
        near(x, FAR, FAR, 0, "the greatest value, far above");
        x.move(0, -FAR, -FAR);
        near(x, FAR, FAR, 0, "the two farthest places");
        near(x, FAR, -FAR, 0, "the two farthest places in x");
        near(x, -1, -FAR, 1, "one below, from the farthest place");
        near(x, 0, -FAR, 0, "just it, from the farthest place");
    }

    private static void closeDifferentOnOneLayer() {
        RuleChoice x = heap(0);
        ruleForAll(x, 0, FAR);
        Check.due("no things", x.close(0), 0);
        x.thing(0, 0, 0, 0);
        Check.due("one thing is not two different ones", x.close(0), 0);
        x.thing(0, 1, 0, 0);
        Check.due("two layers, though the rule is for any", x.close(0), 0);
        x.thing(0, 1, 0, 0);
        Check.due("two on layer 1", x.close(0), 1);
        x.make(0, 0, 1);
        Check.due("three on layer 1", x.close(0), 3);
        x.rule(0, NONE, NONE, 0, FAR);
        Check.due("another layer's rule does not match", x.close(0), 3);
        x.area(0, 0, 1, 1);
        x.inArea(0, 0);
        Check.due("all in the area", x.close(0), 3);
        x.move(2, 0, 2);
        Check.due("one out of the area", x.close(0), 1);
        RuleChoice full = heap(40);
        ruleForAll(full, 5, 1);
        Check.due("forty things", full.close(5), 780);
        full.move(39, 1, 0);
        Check.due("one of forty away", full.close(5), 741);
    }

    private static void closeKeepsNothing() {
        Doc.promise(14, "(Nothing is KEPT, and what is KEPT stays.)");
        RuleChoice x = heap(3);
        ruleForAll(x, 0, 5);
        x.close(0);
        counts(x, 0, 0, "close() keeps nothing");
        x.winner(0, 0, 1);
        x.winner(1, 0, 1);
        counts(x, 2, 0, "two answers");
        x.close(0);
        x.close(1);
        x.close(2);
        counts(x, 2, 0, "what is kept stays");
        x.winner(0, 0, 2);
        counts(x, 3, 0, "what close() looked at is not found");
        x.winner(0, 1, 0);
        x.winner(1, 1, 0);
        counts(x, 3, 2, "what was kept before is found");
    }

    private static void closeRefused() {
        Doc.promise(14, "IndexOutOfBoundsException, when there is no such kind.");
        RuleChoice x = heap(2);
        ruleForAll(x, 0, 1);
        ruleForAll(x, 5, 1);
        Check.due("the lowest kind", x.close(0), 1);
        Check.due("the highest kind", x.close(5), 1);
        for (Scene scene : Scene.values()) {
            for (int kind : NO_KINDS) {
                scene.outOfBounds("close(" + kind + ")", y -> y.close(kind));
            }
        }
    }

    private static void pair() {
        Doc.promise(15, "Of the k-th of these, by the lower number, then by the other one: the lower (which 0), "
                + "the other (1), as the latest close() found them; NONE, when there are not so many.");
        RuleChoice x = new RuleChoice(1);
        ruleForAll(x, 0, 2);
        for (long place : new long[] {10, 0, 11, 1, 9}) {
            x.thing(0, 0, place, 0);
        }
        pairs(x);
        Check.due("close", x.close(0), 3);
        pairs(x, 0, 2, 0, 4, 1, 3);
        x.move(3, 12, 0);
        Check.due("close after a move", x.close(0), 3);
        pairs(x, 0, 2, 0, 4, 2, 3);
        x.move(1, 8, 0);
        Check.due("close after two moves", x.close(0), 4);
        pairs(x, 0, 2, 0, 4, 1, 4, 2, 3);
        RuleChoice full = heap(40);
        ruleForAll(full, 0, 1);
        Check.due("close of forty", full.close(0), 780);
        int[][] kLowOther = {{0, 0, 1}, {1, 0, 2}, {38, 0, 39}, {39, 1, 2}, {76, 1, 39}, {777, 37, 38}, {778, 37, 39},
            {779, 38, 39}};
        for (int[] row : kLowOther) {
            Check.due("the lower of pair " + row[0] + " of 780", full.pair(row[0], 0), row[1]);
            Check.due("the other of pair " + row[0] + " of 780", full.pair(row[0], 1), row[2]);
        }
        Check.due("pair 780 of 780", full.pair(780, 0), NONE);
        Check.due("pair 780 of 780, the other", full.pair(780, 1), NONE);
    }

    /** These and no more, and none below the first. */
    private static void pairs(RuleChoice x, int... due) {
        int count = due.length / 2;
        for (int which = 0; which <= 1; which++) {
            Check.due("k -1, which " + which, x.pair(-1, which), NONE);
            for (int k = 0; k < count; k++) {
                Check.due("k " + k + " of " + count + ", which " + which, x.pair(k, which), due[2 * k + which]);
            }
            Check.due("k one above the last of " + count, x.pair(count, which), NONE);
            Check.due("the least k", x.pair(MIN, which), NONE);
            Check.due("the greatest k", x.pair(MAX, which), NONE);
        }
    }

    private static void pairOfTheLatest() {
        RuleChoice x = heap(3);
        ruleForAll(x, 0, 5);
        ruleForAll(x, 1, 2);
        pairs(x);
        Check.due("close of kind 0", x.close(0), 3);
        x.move(2, 3, 0);
        x.rank(0, 7);
        x.thing(0, 0, 0, 0);
        x.winner(0, 0, 1);
        pairs(x, 0, 1, 0, 2, 1, 2);
        Check.outOfBounds("close(6)", () -> x.close(6));
        pairs(x, 0, 1, 0, 2, 1, 2);
        Check.due("close of kind 1", x.close(1), 3);
        pairs(x, 0, 1, 0, 3, 1, 3);
        Check.due("close of kind 2, without a winner", x.close(2), 0);
        pairs(x);
    }

    private static void pairRefused() {
        Doc.promise(15, "IndexOutOfBoundsException, for another which.");
        for (Scene scene : Scene.values()) {
            for (int which : new int[] {-1, 2, MIN, MAX}) {
                for (int k : new int[] {-1, 0, 1, 780, MIN, MAX}) {
                    scene.outOfBounds("pair(" + k + ", " + which + ")", x -> x.pair(k, which));
                }
            }
        }
    }

    private static void kept() {
        Doc.promise(16, "How many answers are KEPT.");
        RuleChoice x = heap(40);
        Check.due("none", x.kept(), 0);
        int asked = 0;
        for (int a = 0; a < 40; a += 2) {
            for (int b = 0; b <= a; b += 2) {
                x.winner(5, a, b);
                asked++;
            }
        }
        Check.due("every second of kind 5", x.kept(), asked);
        for (int b = 0; b < 40; b++) {
            x.value(0, 39, b);
        }
        Check.due("and thing 39's of kind 0", x.kept(), asked + 40);
        x.make(39, 0, 1);
        Check.due("without thing 39's", x.kept(), asked);
        x.make(0, 0, 1);
        Check.due("without thing 0's", x.kept(), asked - 20);
        ruleForAll(x, 5, 0);
        Check.due("without all", x.kept(), 0);
        x.kept();
        Check.due("asking changes nothing", x.kept(), 0);
    }

    private static void spared() {
        Doc.promise(17, "How often winner() or value() found its answer KEPT.");
        RuleChoice x = heap(2);
        Check.due("never", x.spared(), 0);
        x.winner(0, 0, 1);
        Check.due("not by the first", x.spared(), 0);
        x.winner(0, 1, 0);
        Check.due("once", x.spared(), 1);
        x.value(0, 0, 1);
        Check.due("twice, by value()", x.spared(), 2);
        ruleForAll(x, 0, 1);
        Check.due("a drop takes nothing back", x.spared(), 2);
        x.value(0, 0, 1);
        Check.due("not after a drop", x.spared(), 2);
        x.value(0, 0, 1);
        Check.due("three times", x.spared(), 3);
        Check.outOfBounds("winner of no kind", () -> x.winner(6, 0, 1));
        Check.outOfBounds("value of no thing", () -> x.value(0, 0, 2));
        x.listed(0, 0, 1, 0);
        x.why(0, 0, 1, 0);
        x.close(0);
        x.spared();
        Check.due("not by other calls", x.spared(), 3);
    }

    /** "An object is used for at most 512 calls after it has been made": the last of them still answers. */
    private static void last() {
        RuleChoice asked = heap(1);
        for (int call = 2; call < 512; call++) {
            asked.winner(5, 0, 0);
        }
        Check.due("the 512th call, after 509 spared", asked.spared(), 509);
        RuleChoice told = heap(40);
        for (int call = 41; call < 512; call++) {
            Check.due("call " + call, told.thing(0, 0, 0, 0), NONE);
        }
        Check.due("the 512th call: a first rule", told.rule(0, 0, 0, 0, 0), 0);
    }

    private static void counts(RuleChoice x, int kept, long spared, String when) {
        Check.due("kept(): " + when, x.kept(), kept);
        Check.due("spared(): " + when, x.spared(), spared);
    }
}
