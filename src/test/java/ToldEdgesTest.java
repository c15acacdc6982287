/** Boundary cases of promises 1 to 9: a new object, and what is told to it. */
public final class ToldEdgesTest {
    private static final Edges EDGES = new Edges();
    private static final int NONE = ApartCost.NONE;
    private static final long CENT = Edges.CENT;
    private static final int[] NO_KINDS = {-1, 6, -6, 11, 32, Integer.MIN_VALUE, Integer.MAX_VALUE};
    private static final int[] NO_PARTS = {-1, 12, -12, 32, Integer.MIN_VALUE, Integer.MAX_VALUE};
    private static final long[] NO_PRICES = {
        -1, 1000001, -1000000, Integer.MIN_VALUE, Integer.MAX_VALUE, Long.MIN_VALUE, Long.MAX_VALUE,
        1L << 32, -1L << 32, (1L << 32) + 1, (1L << 32) + 1000000, 1L << 40,
    };
    private static final long[] NO_WORTHS = {
        -1000001, 1000001, Integer.MIN_VALUE, Integer.MAX_VALUE, Long.MIN_VALUE, Long.MAX_VALUE,
        1L << 32, -1L << 32, (1L << 32) + 1, -(1L << 32) - 1, 1L << 40,
    };

    public static void main(String[] args) {
        newHasNoActs();
        newIsSure();
        newIsWorthNothing();
        newFoundNothing();
        newIsApartFromOthers();

        actNumbers();
        actFull();
        actPartTooSmall();
        actPartTooLarge();
        actPartEdges();
        actToolWrong();
        actSideWrong();
        actToolAndSideEdges();
        actCentsWrong();
        actCentsEdges();
        actRefusedTakesNoNumber();

        beforeWithoutActs();
        beforeTooSmall();
        beforeTooLarge();
        beforeItself();
        beforeDirectCircle();
        beforeLongestCircle();
        beforeTwice();
        beforeAllTen();

        changeToolsWrong();
        changeSame();
        changeCentsWrong();
        changeCentsEdges();
        changeAllPairs();
        changeAnew();
        turnSidesWrong();
        turnSame();
        turnCentsWrong();
        turnCentsEdges();
        turnAllPairs();
        turnAnew();

        worthPartWrong();
        worthCentsWrong();
        worthEdges();
        worthAnew();

        restBitsWrong();
        restBitsEdges();
        restCentsWrong();
        restCentsEdges();
        restSeventeenth();
        restOneOfSixteen();
        restAnewTakesNoPlace();
        restRefusedTakesNoPlace();
        restOfNothingTakesAPlace();

        breaksWithoutActs();
        breaksWrong();
        breaksTwice();
        breaksAllTen();

        surePartWrong();
        sureBelowWrong();
        sureAboveWrong();
        sureEdges();
        sureAnew();
        EDGES.end();
    }

    private static ApartCost withActs(int acts) {
        ApartCost x = new ApartCost();
        for (int act = 0; act < acts; act++) {
            x.act(act, 0, 0, 0);
        }
        return x;
    }

    // Promise 1

    private static void newHasNoActs() {
        EDGES.hold(1, "No acts");
        ApartCost x = new ApartCost();
        EDGES.due("states()", x.states(), 1);
        EDGES.due("breaks(0)", x.breaks(0), false);
        EDGES.due("run(1)", x.run(1), 0);
        EDGES.due("other(0)", x.other(0), NONE);
        EDGES.due("the first act", x.act(0, 0, 0, 0), 0);
    }

    private static void newIsSure() {
        EDGES.hold(1, "all parts sure");
        for (int part = 0; part < 12; part++) {
            ApartCost x = new ApartCost();
            x.act(part, 0, 0, 3);
            x.worth(part, 7);
            EDGES.due("bound() with part " + part, x.bound(), 7 * CENT);
            EDGES.due("run(2)", x.run(2), 1);
            EDGES.due("gain(" + part + ")", x.gain(part), 7 * CENT);
        }
    }

    private static void newIsWorthNothing() {
        EDGES.hold(1, "worth 0");
        EDGES.due("bound()", new ApartCost().bound(), 0);
        for (int part = 0; part < 12; part++) {
            ApartCost x = new ApartCost();
            x.act(part, 0, 0, 0);
            x.rest(4095 - (1 << part), 1);
            EDGES.due("run(2) for the rest", x.run(2), 1);
            EDGES.due("gain(" + part + ")", x.gain(part), 0);
            EDGES.due("gain(NONE)", x.gain(NONE), CENT);
        }
    }

    private static void newFoundNothing() {
        EDGES.hold(1, "nothing was found");
        ApartCost x = new ApartCost();
        for (int k = -1; k <= 12; k++) {
            EDGES.due("step(" + k + ")", x.step(k), NONE);
            EDGES.due("stops(" + k + ")", x.stops(k), NONE);
            EDGES.due("other(" + k + ")", x.other(k), NONE);
            EDGES.due("gain(" + k + ")", x.gain(k), 0);
            EDGES.due("station(" + k + ")", x.station(k), NONE);
        }
        EDGES.due("proved()", x.proved(), false);
        EDGES.due("stations(1)", x.stations(1), NONE);
    }

    private static void newIsApartFromOthers() {
        EDGES.hold(1, "No acts; all parts sure, worth 0; nothing was found.");
        String due = Picture.ofAll(new ApartCost());
        ApartCost other = withActs(10);
        for (int part = 0; part < 12; part++) {
            other.worth(part, 5 + part);
            other.sure(part, 1, 2);
        }
        for (int bits = 0; bits < 16; bits++) {
            other.rest(4095 - bits, 9);
        }
        other.change(0, 1, 50);
        other.turn(0, 1, 50);
        other.breaks(0);
        other.before(0, 1);
        other.run(9999);
        other.stations(2);
        EDGES.due("an object made behind a full one", Picture.ofAll(new ApartCost()), due);
    }

    // Promise 2

    private static void actNumbers() {
        EDGES.hold(2, "Answers its number");
        ApartCost x = new ApartCost();
        for (int number = 0; number < 10; number++) {
            EDGES.due("act", x.act(3, 0, 0, 0), number);
        }
    }

    private static void actFull() {
        EDGES.hold(2, "NONE when there are 10");
        ApartCost x = withActs(9);
        EDGES.due("the tenth act", x.act(0, 0, 0, 0), 9);
        EDGES.due("an eleventh act", x.act(0, 0, 0, 0), NONE);
        EDGES.due("an eleventh act that frees none", x.act(NONE, 5, 5, 1000000), NONE);
        EDGES.due("an eleventh act that is wrong, too", x.act(12, 6, 6, -1), NONE);
        EDGES.due("states() of ten", x.states(), 5121);
    }

    private static void actPartTooSmall() {
        EDGES.hold(2, "or the part (NONE .. 11), tool or side is not such");
        ApartCost x = new ApartCost();
        for (int part : new int[] {-2, -12, -32, Integer.MIN_VALUE}) {
            EDGES.due("act(" + part + ", 0, 0, 0)", x.act(part, 0, 0, 0), NONE);
        }
        EDGES.due("states()", x.states(), 1);
    }

    private static void actPartTooLarge() {
        EDGES.hold(2, "or the part (NONE .. 11), tool or side is not such");
        ApartCost x = new ApartCost();
        for (int part : new int[] {12, 13, 32, 4095, Integer.MAX_VALUE}) {
            EDGES.due("act(" + part + ", 0, 0, 0)", x.act(part, 0, 0, 0), NONE);
        }
        EDGES.due("states()", x.states(), 1);
    }

    private static void actPartEdges() {
        EDGES.hold(2, "the part (NONE .. 11)");
        ApartCost x = new ApartCost();
        EDGES.due("act(NONE, 0, 0, 0)", x.act(NONE, 0, 0, 0), 0);
        EDGES.due("act(0, 0, 0, 0)", x.act(0, 0, 0, 0), 1);
        EDGES.due("act(11, 0, 0, 0)", x.act(11, 0, 0, 0), 2);
        x.before(0, 1);
        x.before(1, 2);
        x.worth(0, 5);
        x.worth(11, 6);
        EDGES.due("run(4)", x.run(4), 3);
        EDGES.due("gain(0)", x.gain(0), 5 * CENT);
        EDGES.due("gain(11)", x.gain(11), 6 * CENT);
        EDGES.due("stops(0)", x.stops(0), 1);
        EDGES.due("stops(9)", x.stops(9), 10);
        EDGES.due("stops(10)", x.stops(10), NONE);
    }

    private static void actToolWrong() {
        EDGES.hold(2, "tool or side is not such");
        ApartCost x = new ApartCost();
        for (int tool : NO_KINDS) {
            EDGES.due("act(0, " + tool + ", 0, 0)", x.act(0, tool, 0, 0), NONE);
        }
        EDGES.due("states()", x.states(), 1);
    }

    private static void actSideWrong() {
        EDGES.hold(2, "tool or side is not such");
        ApartCost x = new ApartCost();
        for (int side : NO_KINDS) {
            EDGES.due("act(0, 0, " + side + ", 0)", x.act(0, 0, side, 0), NONE);
        }
        EDGES.due("states()", x.states(), 1);
    }

    private static void actToolAndSideEdges() {
        EDGES.hold(2, "One more act.");
        ApartCost x = new ApartCost();
        EDGES.due("act(0, 0, 5, 0)", x.act(0, 0, 5, 0), 0);
        EDGES.due("act(1, 5, 0, 0)", x.act(1, 5, 0, 0), 1);
        x.before(0, 1);
        x.worth(1, 100);
        x.change(0, 5, 3);
        x.turn(5, 0, 4);
        EDGES.due("run(3)", x.run(3), 2);
        EDGES.due("gain(NONE), less the change and the turn", x.gain(NONE), 93 * CENT);
    }

    private static void actCentsWrong() {
        EDGES.hold(2, "or cents are not 0 .. 1000000");
        ApartCost x = new ApartCost();
        for (long cents : NO_PRICES) {
            EDGES.due("act(0, 0, 0, " + cents + ")", x.act(0, 0, 0, cents), NONE);
        }
        EDGES.due("states()", x.states(), 1);
    }

    private static void actCentsEdges() {
        EDGES.hold(2, "cents are not 0 .. 1000000");
        for (long cents : new long[] {0, 1, 999999, 1000000}) {
            ApartCost x = new ApartCost();
            EDGES.due("act(0, 0, 0, " + cents + ")", x.act(0, 0, 0, cents), 0);
            x.worth(0, 1000000);
            x.rest(4094, 1);
            EDGES.due("run(2)", x.run(2), 1);
            EDGES.due("gain(NONE)", x.gain(NONE), (1000001 - cents) * CENT);
        }
    }

    private static void actRefusedTakesNoNumber() {
        EDGES.hold(2, "Answers its number; NONE when");
        ApartCost x = new ApartCost();
        EDGES.due("act", x.act(0, 0, 0, 0), 0);
        EDGES.due("a refused one", x.act(12, 0, 0, 0), NONE);
        EDGES.due("a refused one", x.act(0, 0, 0, -1), NONE);
        EDGES.due("the next act", x.act(1, 0, 0, 0), 1);
        EDGES.due("states() of two", x.states(), 5);
    }

    // Promise 3

    private static void beforeWithoutActs() {
        EDGES.hold(3, "false when there are none such");
        ApartCost x = new ApartCost();
        EDGES.due("before(0, 1)", x.before(0, 1), false);
        EDGES.due("before(0, 0)", x.before(0, 0), false);
        x.act(0, 0, 0, 0);
        EDGES.due("before(0, 1) of one act", x.before(0, 1), false);
        EDGES.due("before(1, 0) of one act", x.before(1, 0), false);
        x.act(1, 0, 0, 0);
        EDGES.due("before(0, 1) of two acts", x.before(0, 1), true);
    }

    private static void beforeTooSmall() {
        EDGES.hold(3, "false when there are none such");
        ApartCost x = withActs(2);
        for (int act : new int[] {-1, -2, -32, Integer.MIN_VALUE}) {
            EDGES.due("before(" + act + ", 0)", x.before(act, 0), false);
            EDGES.due("before(0, " + act + ")", x.before(0, act), false);
            EDGES.due("before(" + act + ", " + act + ")", x.before(act, act), false);
        }
        EDGES.due("states()", x.states(), 5);
    }

    private static void beforeTooLarge() {
        EDGES.hold(3, "false when there are none such");
        ApartCost x = withActs(2);
        for (int act : new int[] {2, 9, 10, 32, 33, Integer.MAX_VALUE}) {
            EDGES.due("before(" + act + ", 0)", x.before(act, 0), false);
            EDGES.due("before(0, " + act + ")", x.before(0, act), false);
        }
        EDGES.due("states()", x.states(), 5);
        ApartCost full = withActs(10);
        EDGES.due("before(10, 0) of ten", full.before(10, 0), false);
        EDGES.due("before(0, 10) of ten", full.before(0, 10), false);
    }

    private static void beforeItself() {
        EDGES.hold(3, "a is b");
        ApartCost x = withActs(10);
        for (int act = 0; act < 10; act++) {
            EDGES.due("before(" + act + ", " + act + ")", x.before(act, act), false);
        }
        EDGES.due("states()", x.states(), 5121);
    }

    private static void beforeDirectCircle() {
        EDGES.hold(3, "or a needs b (it itself");
        ApartCost x = withActs(2);
        EDGES.due("before(1, 0)", x.before(1, 0), true);
        EDGES.due("before(0, 1)", x.before(0, 1), false);
        EDGES.due("states()", x.states(), 3);
        x.rest(4092, 5);
        x.run(3);
        EDGES.dueRow(x, 1, 0);
    }

    private static void beforeLongestCircle() {
        EDGES.hold(3, "or what it needs, and so on)");
        ApartCost x = withActs(10);
        // told from the middle, so that chains are joined at both ends
        int[] firsts = {4, 3, 5, 2, 6, 1, 7, 0, 8};
        for (int first : firsts) {
            EDGES.due("before(" + first + ", " + (first + 1) + ")", x.before(first, first + 1), true);
        }
        for (int later = 1; later < 10; later++) {
            EDGES.due("before(" + later + ", 0)", x.before(later, 0), false);
            EDGES.due("before(9, " + (later - 1) + ")", x.before(9, later - 1), false);
        }
        EDGES.due("states() of one chain", x.states(), 11);
        EDGES.due("before(0, 9), the same way round", x.before(0, 9), true);
        EDGES.due("states() still", x.states(), 11);
    }

    private static void beforeTwice() {
        EDGES.hold(3, "Act b needs act a. Answers true");
        ApartCost x = withActs(3);
        EDGES.due("before(0, 2)", x.before(0, 2), true);
        EDGES.due("before(0, 2) again", x.before(0, 2), true);
        // the beginning, 0, 1, 0 1, 1 0, 0 2, and all three with 1 or 2 as the last one
        EDGES.due("states()", x.states(), 8);
    }

    private static void beforeAllTen() {
        EDGES.hold(3, "Act b needs act a.");
        ApartCost x = new ApartCost();
        for (int act = 0; act < 10; act++) {
            x.act(act, 0, 0, 1);
        }
        EDGES.due("before(9, 0)", x.before(9, 0), true);
        x.worth(0, 50);
        EDGES.due("run(5121)", x.run(5121), 2);
        EDGES.dueRow(x, 9, 0);
        EDGES.due("before(8, 9)", x.before(8, 9), true);
        EDGES.due("run(5121)", x.run(5121), 3);
        EDGES.dueRow(x, 8, 9, 0);
    }

    // Promises 4 and 5

    /** Two acts, of which the second pays and needs the first. */
    private static ApartCost twoActs(int toolA, int toolB, int sideA, int sideB) {
        ApartCost x = new ApartCost();
        x.act(NONE, toolA, sideA, 0);
        x.act(0, toolB, sideB, 0);
        x.before(0, 1);
        x.worth(0, 1000000);
        x.rest(4094, 1000000);
        return x;
    }

    private static void dueCost(String call, ApartCost x, long cents) {
        EDGES.due(call + ": run(3)", x.run(3), 2);
        EDGES.due(call + ": gain(NONE)", x.gain(NONE), (2000000 - cents) * CENT);
    }

    private static void changeToolsWrong() {
        EDGES.hold(4, "false when there are none such");
        ApartCost x = twoActs(0, 1, 0, 0);
        for (int tool : NO_KINDS) {
            EDGES.due("change(" + tool + ", 1, 5)", x.change(tool, 1, 5), false);
            EDGES.due("change(0, " + tool + ", 5)", x.change(0, tool, 5), false);
            EDGES.due("change(" + tool + ", " + tool + ", 5)", x.change(tool, tool, 5), false);
        }
        dueCost("nothing was told", x, 0);
    }

    private static void changeSame() {
        EDGES.hold(4, "both are the same");
        for (int tool = 0; tool < 6; tool++) {
            ApartCost x = twoActs(tool, tool, 0, 0);
            EDGES.due("change(" + tool + ", " + tool + ", 5)", x.change(tool, tool, 5), false);
            EDGES.due("change(" + tool + ", " + tool + ", 0)", x.change(tool, tool, 0), false);
            dueCost("the same tool", x, 0);
        }
    }

    private static void changeCentsWrong() {
        EDGES.hold(4, "or cents are not such");
        ApartCost x = twoActs(0, 1, 0, 0);
        x.change(0, 1, 7);
        for (long cents : NO_PRICES) {
            EDGES.due("change(0, 1, " + cents + ")", x.change(0, 1, cents), false);
        }
        dueCost("as it was told before", x, 7);
    }

    private static void changeCentsEdges() {
        EDGES.hold(4, "Changing from one tool to another one costs, 0 .. 1000000.");
        for (long cents : new long[] {0, 1, 999999, 1000000}) {
            ApartCost x = twoActs(0, 1, 0, 0);
            EDGES.due("change(0, 1, " + cents + ")", x.change(0, 1, cents), true);
            dueCost("change for " + cents, x, cents);
        }
    }

    private static void changeAllPairs() {
        EDGES.hold(4, "Changing from one tool to another one costs");
        for (int pair = 0; pair < 36; pair++) {
            int from = pair / 6;
            int to = pair % 6;
            ApartCost x = twoActs(from, to, 0, 1);
            for (int told = 0; told < 36; told++) {
                EDGES.due("change pair " + told, x.change(told / 6, told % 6, 100 + told), told / 6 != told % 6);
            }
            dueCost("change from " + from + " to " + to, x, from == to ? 0 : 100 + pair);
        }
    }

    private static void changeAnew() {
        EDGES.hold(4, "costs, 0 .. 1000000. Answers true");
        ApartCost x = twoActs(5, 4, 0, 0);
        EDGES.due("change(5, 4, 900)", x.change(5, 4, 900), true);
        EDGES.due("change(5, 4, 9)", x.change(5, 4, 9), true);
        dueCost("told anew", x, 9);
        EDGES.due("change(5, 4, 0)", x.change(5, 4, 0), true);
        dueCost("told as 0", x, 0);
    }

    private static void turnSidesWrong() {
        EDGES.hold(5, "false likewise");
        ApartCost x = twoActs(0, 0, 0, 1);
        for (int side : NO_KINDS) {
            EDGES.due("turn(" + side + ", 1, 5)", x.turn(side, 1, 5), false);
            EDGES.due("turn(0, " + side + ", 5)", x.turn(0, side, 5), false);
            EDGES.due("turn(" + side + ", " + side + ", 5)", x.turn(side, side, 5), false);
        }
        dueCost("nothing was told", x, 0);
    }

    private static void turnSame() {
        EDGES.hold(5, "false likewise");
        for (int side = 0; side < 6; side++) {
            ApartCost x = twoActs(0, 0, side, side);
            EDGES.due("turn(" + side + ", " + side + ", 5)", x.turn(side, side, 5), false);
            EDGES.due("turn(" + side + ", " + side + ", 0)", x.turn(side, side, 0), false);
            dueCost("the same side", x, 0);
        }
    }

    private static void turnCentsWrong() {
        EDGES.hold(5, "false likewise");
        ApartCost x = twoActs(0, 0, 0, 1);
        x.turn(0, 1, 7);
        for (long cents : NO_PRICES) {
            EDGES.due("turn(0, 1, " + cents + ")", x.turn(0, 1, cents), false);
        }
        dueCost("as it was told before", x, 7);
    }

    private static void turnCentsEdges() {
        EDGES.hold(5, "Turning from one side to another one costs, 0 .. 1000000.");
        for (long cents : new long[] {0, 1, 999999, 1000000}) {
            ApartCost x = twoActs(0, 0, 0, 1);
            EDGES.due("turn(0, 1, " + cents + ")", x.turn(0, 1, cents), true);
            dueCost("turn for " + cents, x, cents);
        }
    }

    private static void turnAllPairs() {
        EDGES.hold(5, "Turning from one side to another one costs");
        for (int pair = 0; pair < 36; pair++) {
            int from = pair / 6;
            int to = pair % 6;
            ApartCost x = twoActs(0, 1, from, to);
            for (int told = 0; told < 36; told++) {
                EDGES.due("turn pair " + told, x.turn(told / 6, told % 6, 100 + told), told / 6 != told % 6);
            }
            dueCost("turn from " + from + " to " + to, x, from == to ? 0 : 100 + pair);
        }
    }

    private static void turnAnew() {
        EDGES.hold(5, "costs, 0 .. 1000000. Answers true");
        ApartCost x = twoActs(0, 0, 5, 4);
        EDGES.due("turn(5, 4, 900)", x.turn(5, 4, 900), true);
        EDGES.due("turn(5, 4, 9)", x.turn(5, 4, 9), true);
        dueCost("told anew", x, 9);
        EDGES.due("turn(5, 4, 0)", x.turn(5, 4, 0), true);
        dueCost("told as 0", x, 0);
    }

    // Promise 6

    private static void worthPartWrong() {
        EDGES.hold(6, "false when it is not such");
        ApartCost x = new ApartCost();
        for (int part : NO_PARTS) {
            EDGES.due("worth(" + part + ", 5)", x.worth(part, 5), false);
        }
        EDGES.due("bound()", x.bound(), 0);
    }

    private static void worthCentsWrong() {
        EDGES.hold(6, "false when it is not such");
        ApartCost x = new ApartCost();
        x.worth(0, 7);
        for (long cents : NO_WORTHS) {
            EDGES.due("worth(0, " + cents + ")", x.worth(0, cents), false);
        }
        EDGES.due("bound(), as it was told before", x.bound(), 7 * CENT);
    }

    private static void worthEdges() {
        EDGES.hold(6, "A part's worth, -1000000 .. 1000000. Answers true");
        for (int part : new int[] {0, 11}) {
            for (long cents : new long[] {-1000000, -999999, -1, 0, 1, 999999, 1000000}) {
                ApartCost x = new ApartCost();
                x.act(part, 0, 0, 0);
                // the row of none is dearer than any worth
                x.rest(4095, -1000000);
                x.rest(4095 - (1 << part), 1);
                EDGES.due("worth(" + part + ", " + cents + ")", x.worth(part, cents), true);
                EDGES.due("run(2)", x.run(2), 1);
                EDGES.due("gain(" + part + ")", x.gain(part), cents * CENT);
                EDGES.due("gain(NONE)", x.gain(NONE), (cents + 1) * CENT);
            }
        }
    }

    private static void worthAnew() {
        EDGES.hold(6, "A part's worth");
        ApartCost x = new ApartCost();
        for (int part = 0; part < 12; part++) {
            EDGES.due("worth(" + part + ", 1000)", x.worth(part, 1000), true);
        }
        for (int part = 0; part < 12; part++) {
            EDGES.due("worth(" + part + ") anew", x.worth(part, 1 << part), true);
        }
        EDGES.due("bound()", x.bound(), 4095 * CENT);
        EDGES.due("worth(11, 0)", x.worth(11, 0), true);
        EDGES.due("bound()", x.bound(), 2047 * CENT);
    }

    // Promise 7

    private static void restBitsWrong() {
        EDGES.hold(7, "bits are not 0 .. 4095");
        ApartCost x = new ApartCost();
        long[] wrong = {
            -1, -4095, -4096, 4096, 4097, 8191, Integer.MIN_VALUE, Integer.MAX_VALUE, Long.MIN_VALUE,
            Long.MAX_VALUE, 1L << 32, -1L << 32, (1L << 32) + 4095, 1L << 40,
        };
        for (long bits : wrong) {
            EDGES.due("rest(" + bits + ", 5)", x.rest(bits, 5), false);
        }
        EDGES.due("bound()", x.bound(), 0);
        EDGES.due("run(1)", x.run(1), 0);
        EDGES.due("gain(NONE)", x.gain(NONE), 0);
    }

    private static void restBitsEdges() {
        EDGES.hold(7, "bits are not 0 .. 4095");
        ApartCost x = new ApartCost();
        EDGES.due("rest(0, 5)", x.rest(0, 5), true);
        EDGES.due("bound()", x.bound(), 5 * CENT);
        EDGES.due("run(1): all parts are the rest, not none of them", x.run(1), 0);
        EDGES.due("gain(NONE)", x.gain(NONE), 0);
        EDGES.due("rest(4095, 6)", x.rest(4095, 6), true);
        EDGES.due("bound()", x.bound(), 6 * CENT);
        EDGES.due("run(1)", x.run(1), 0);
        EDGES.due("gain(NONE)", x.gain(NONE), 6 * CENT);
    }

    private static void restCentsWrong() {
        EDGES.hold(7, "false when it is not such");
        ApartCost x = new ApartCost();
        x.rest(4095, 7);
        for (long cents : NO_WORTHS) {
            EDGES.due("rest(4095, " + cents + ")", x.rest(4095, cents), false);
            EDGES.due("rest(1, " + cents + ")", x.rest(1, cents), false);
        }
        EDGES.due("bound()", x.bound(), 7 * CENT);
        EDGES.due("run(1)", x.run(1), 0);
        EDGES.due("gain(NONE), as it was told before", x.gain(NONE), 7 * CENT);
    }

    private static void restCentsEdges() {
        EDGES.hold(7, "The worth of a rest, -1000000 .. 1000000. Answers true");
        for (long cents : new long[] {-1000000, -999999, -1, 0, 1, 999999, 1000000}) {
            ApartCost x = new ApartCost();
            EDGES.due("rest(4095, " + cents + ")", x.rest(4095, cents), true);
            EDGES.due("run(1)", x.run(1), 0);
            EDGES.due("gain(NONE)", x.gain(NONE), cents * CENT);
        }
    }

    /** Sixteen rests, of bits 100 to 115, each worth 1. */
    private static ApartCost sixteenRests() {
        ApartCost x = new ApartCost();
        for (int bits = 100; bits < 116; bits++) {
            EDGES.due("rest(" + bits + ", 1)", x.rest(bits, 1), true);
        }
        return x;
    }

    private static void restSeventeenth() {
        EDGES.hold(7, "or 16 other rests were told");
        ApartCost x = sixteenRests();
        EDGES.due("rest(116, 50)", x.rest(116, 50), false);
        EDGES.due("rest(0, 50)", x.rest(0, 50), false);
        EDGES.due("rest(4095, 50)", x.rest(4095, 50), false);
        EDGES.due("bound()", x.bound(), CENT);
        EDGES.due("run(1)", x.run(1), 0);
        EDGES.due("gain(NONE)", x.gain(NONE), 0);
    }

    private static void restOneOfSixteen() {
        EDGES.hold(7, "16 other rests were told");
        for (int bits = 100; bits < 116; bits++) {
            ApartCost x = sixteenRests();
            EDGES.due("rest(" + bits + ", 9) anew", x.rest(bits, 9), true);
            EDGES.due("bound()", x.bound(), 9 * CENT);
            EDGES.due("rest(" + bits + ", -9) anew", x.rest(bits, -9), true);
            EDGES.due("bound()", x.bound(), CENT);
            EDGES.due("rest(116, 9)", x.rest(116, 9), false);
        }
    }

    private static void restAnewTakesNoPlace() {
        EDGES.hold(7, "16 other rests were told");
        ApartCost x = new ApartCost();
        for (int times = 0; times < 20; times++) {
            EDGES.due("rest(7, " + times + ")", x.rest(7, times), true);
        }
        for (int bits = 100; bits < 115; bits++) {
            EDGES.due("rest(" + bits + ", 1)", x.rest(bits, 1), true);
        }
        EDGES.due("a seventeenth", x.rest(115, 1), false);
        EDGES.due("bound()", x.bound(), 19 * CENT);
    }

    private static void restRefusedTakesNoPlace() {
        EDGES.hold(7, "16 other rests were told");
        ApartCost x = new ApartCost();
        for (int times = 0; times < 20; times++) {
            EDGES.due("a wrong worth", x.rest(times, 1000001), false);
            EDGES.due("wrong bits", x.rest(4096 + times, 1), false);
        }
        for (int bits = 100; bits < 116; bits++) {
            EDGES.due("rest(" + bits + ", 1)", x.rest(bits, 1), true);
        }
        EDGES.due("a seventeenth", x.rest(116, 1), false);
    }

    private static void restOfNothingTakesAPlace() {
        EDGES.hold(7, "16 other rests were told");
        ApartCost x = new ApartCost();
        for (int bits = 0; bits < 16; bits++) {
            EDGES.due("rest(" + bits + ", 0)", x.rest(bits, 0), true);
        }
        EDGES.due("rest(16, 0)", x.rest(16, 0), false);
    }

    // Promise 8

    private static void breaksWithoutActs() {
        EDGES.hold(8, "false when there is none such");
        ApartCost x = new ApartCost();
        EDGES.due("breaks(0) of none", x.breaks(0), false);
        x.act(0, 0, 0, 0);
        x.worth(0, 5);
        EDGES.due("run(2): it does not break", x.run(2), 1);
        EDGES.due("gain(0)", x.gain(0), 5 * CENT);
        EDGES.due("breaks(0) of one", x.breaks(0), true);
    }

    private static void breaksWrong() {
        EDGES.hold(8, "false when there is none such");
        ApartCost x = withActs(1);
        x.worth(0, 5);
        for (int act : new int[] {-1, 1, 2, 9, 10, 32, -32, 64, Integer.MIN_VALUE, Integer.MAX_VALUE}) {
            EDGES.due("breaks(" + act + ")", x.breaks(act), false);
        }
        EDGES.due("run(2): it does not break", x.run(2), 1);
        EDGES.due("gain(0)", x.gain(0), 5 * CENT);
        x.act(1, 0, 0, 0);
        x.worth(1, 6);
        EDGES.due("run(5): nor does a later act", x.run(5), 2);
        EDGES.due("gain(1)", x.gain(1), 6 * CENT);
        EDGES.due("breaks(10) of ten", withActs(10).breaks(10), false);
    }

    private static void breaksTwice() {
        EDGES.hold(8, "or it does already");
        ApartCost x = withActs(2);
        x.worth(0, 5);
        EDGES.due("breaks(0)", x.breaks(0), true);
        EDGES.due("breaks(0) again", x.breaks(0), false);
        EDGES.due("breaks(0) once more", x.breaks(0), false);
        EDGES.due("run(5): it still breaks", x.run(5), 0);
        EDGES.due("breaks(1)", x.breaks(1), true);
    }

    private static void breaksAllTen() {
        EDGES.hold(8, "An act breaks what it frees. Answers true");
        for (int breaking = 0; breaking < 10; breaking++) {
            ApartCost x = withActs(10);
            for (int part = 0; part < 10; part++) {
                x.worth(part, 5);
            }
            EDGES.due("breaks(" + breaking + ")", x.breaks(breaking), true);
            x.run(5121);
            EDGES.due("gain(NONE)", x.gain(NONE), 45 * CENT);
            EDGES.due("gain(" + breaking + ")", x.gain(breaking), 0);
        }
        ApartCost all = withActs(10);
        for (int act = 0; act < 10; act++) {
            all.worth(act, 5);
            EDGES.due("breaks(" + act + ") behind those before it", all.breaks(act), true);
        }
        for (int act = 0; act < 10; act++) {
            EDGES.due("breaks(" + act + ") again", all.breaks(act), false);
        }
        EDGES.due("run(5121): all is broken", all.run(5121), 0);
    }

    // Promise 9

    private static void surePartWrong() {
        EDGES.hold(9, "false when there is none such");
        ApartCost x = new ApartCost();
        for (int part = 0; part < 12; part++) {
            x.worth(part, 1);
        }
        for (int part : NO_PARTS) {
            EDGES.due("sure(" + part + ", 0, 1)", x.sure(part, 0, 1), false);
        }
        EDGES.due("bound()", x.bound(), 12 * CENT);
    }

    private static void sureBelowWrong() {
        EDGES.hold(9, "below is not 1 .. 12");
        ApartCost x = new ApartCost();
        x.worth(3, 60);
        long[] wrong = {
            0, -1, -12, 13, 14, 27720, Integer.MIN_VALUE, Integer.MAX_VALUE, Long.MIN_VALUE, Long.MAX_VALUE,
            1L << 32, (1L << 32) + 1, (1L << 32) + 12, -(1L << 32) + 2,
        };
        for (long below : wrong) {
            EDGES.due("sure(3, 0, " + below + ")", x.sure(3, 0, below), false);
            EDGES.due("sure(3, 1, " + below + ")", x.sure(3, 1, below), false);
            EDGES.due("sure(3, " + below + ", " + below + ")", x.sure(3, below, below), false);
        }
        EDGES.due("bound()", x.bound(), 60 * CENT);
    }

    private static void sureAboveWrong() {
        EDGES.hold(9, "or above not 0 .. below");
        ApartCost x = new ApartCost();
        x.worth(3, 60);
        for (int below = 1; below <= 12; below++) {
            EDGES.due("sure(3, -1, " + below + ")", x.sure(3, -1, below), false);
            EDGES.due("sure(3, below + 1, " + below + ")", x.sure(3, below + 1, below), false);
        }
        for (long above : Edges.WRAPS_TO_ZERO) {
            EDGES.due("sure(3, " + above + ", 2)", x.sure(3, above, 2), false);
            EDGES.due("sure(3, " + (above + 1) + ", 2)", x.sure(3, above + 1, 2), false);
        }
        EDGES.due("sure(3, most, 12)", x.sure(3, Long.MAX_VALUE, 12), false);
        EDGES.due("bound()", x.bound(), 60 * CENT);
    }

    private static void sureEdges() {
        EDGES.hold(9, "A part's chance becomes above / below. Answers true");
        for (int part : new int[] {0, 11}) {
            for (int below = 1; below <= 12; below++) {
                for (int above : new int[] {0, 1, below - 1, below}) {
                    dueChance(part, above, below);
                }
            }
        }
    }

    private static void dueChance(int part, int above, int below) {
        ApartCost x = new ApartCost();
        x.act(part, 0, 0, 0);
        x.worth(part, 1);
        x.rest(4095 - (1 << part), 1);
        EDGES.due("sure(" + part + ", " + above + ", " + below + ")", x.sure(part, above, below), true);
        EDGES.due("run(2)", x.run(2), 1);
        EDGES.due("gain(" + part + ")", x.gain(part), 27720 / below * above);
        EDGES.due("gain(NONE)", x.gain(NONE), 27720 + 27720 / below * above);
    }

    private static void sureAnew() {
        EDGES.hold(9, "A part's chance becomes above / below.");
        ApartCost x = new ApartCost();
        x.worth(5, 60);
        x.worth(6, 60);
        EDGES.due("sure(5, 1, 2)", x.sure(5, 1, 2), true);
        EDGES.due("sure(5, 1, 3)", x.sure(5, 1, 3), true);
        EDGES.due("bound(): a third, not a sixth", x.bound(), 80 * CENT);
        EDGES.due("sure(5, 0, 4)", x.sure(5, 0, 4), true);
        EDGES.due("bound()", x.bound(), 60 * CENT);
        EDGES.due("sure(5, 7, 7)", x.sure(5, 7, 7), true);
        EDGES.due("bound(): sure again", x.bound(), 120 * CENT);
        EDGES.due("worth(5, 30) leaves the chance", x.sure(5, 1, 2) && x.worth(5, 30), true);
        EDGES.due("bound()", x.bound(), 75 * CENT);
    }
}
