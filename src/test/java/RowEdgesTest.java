/** Boundary cases of promises 10 to 18: states, the best row and what is told of it, its bound, and tests. */
public final class RowEdgesTest {
    private static final Edges EDGES = new Edges();
    private static final int NONE = ApartCost.NONE;
    private static final long CENT = Edges.CENT;
    private static final int[] FAR = {-2, -32, 32, 4095, Integer.MIN_VALUE, Integer.MAX_VALUE};

    public static void main(String[] args) {
        statesOfNone();
        statesOfTen();
        statesOfAChain();
        statesBehindTwo();
        statesBesidesRefused();

        runTooFewNodes();
        runJustEnoughNodes();
        runNodesBelowZero();
        runNodesWrapAround();
        runEmptyRow();
        runFullRow();
        runRefusedKeepsTheRow();

        stepBeforeRun();
        stepOfEmptyRow();
        stepOfFullRow();
        stepWrong();
        stopsBeforeRun();
        stopsOfEmptyRow();
        stopsOfFullRow();
        stopsWrong();
        otherBeforeRun();
        otherOfEmptyRow();
        otherOfFullRow();
        otherWrong();

        gainBeforeRun();
        gainOfOthers();
        gainOfBroken();
        gainOfNotFree();
        gainBelowZero();
        gainOfEmptyRow();
        gainGreatest();
        gainWithoutChance();

        provedBeforeRun();
        provedByRun();
        provedAndRefused();
        provedAndTold();
        provedAndAsked();

        boundOfNothing();
        boundBelowZero();
        boundGreatest();
        boundByChance();
        boundOfRests();
        boundIsReached();

        testPartWrong();
        testCentsWrong();
        testCentsEdges();
        testNotMore();
        testLeastMore();
        testSurePart();
        testWithoutChance();
        testWithoutActs();
        testGreatGains();
        testBothShares();
        testAsThingsAre();
        EDGES.end();
    }

    /** Acts of a cent each, act by act with its own part. */
    private static ApartCost withActs(int acts) {
        ApartCost x = new ApartCost();
        for (int act = 0; act < acts; act++) {
            x.act(act, 0, 0, 1);
        }
        return x;
    }

    /** Ten acts that all pay, in the order of their numbers. */
    private static ApartCost fullRow() {
        ApartCost x = withActs(10);
        for (int part = 0; part < 10; part++) {
            x.worth(part, 2);
        }
        x.run(5121);
        return x;
    }

    /** Ten acts, none of which pays. */
    private static ApartCost emptyRow() {
        ApartCost x = withActs(10);
        x.run(5121);
        return x;
    }

    /** The row 1, 3 of acts 0 to 4; it frees parts 1 and 3. */
    private static ApartCost someRow() {
        ApartCost x = withActs(5);
        x.worth(1, 10);
        x.worth(3, 20);
        x.run(9999);
        return x;
    }

    // Promise 10

    private static void statesOfNone() {
        EDGES.hold(10, "How many states there are.");
        EDGES.due("states(): the beginning", new ApartCost().states(), 1);
        EDGES.due("states() of one act", withActs(1).states(), 2);
    }

    private static void statesOfTen() {
        EDGES.hold(10, "How many states there are.");
        // the beginning, and ten acts as the last one of each of the 512 sets of the others
        EDGES.due("states() of ten acts", withActs(10).states(), 5121);
    }

    private static void statesOfAChain() {
        EDGES.hold(10, "How many states there are.");
        ApartCost x = withActs(10);
        for (int act = 9; act > 0; act--) {
            x.before(act, act - 1);
        }
        EDGES.due("states() of ten in a chain", x.states(), 11);
    }

    private static void statesBehindTwo() {
        EDGES.hold(10, "How many states there are.");
        ApartCost x = withActs(3);
        x.before(0, 2);
        x.before(1, 2);
        // the beginning, 0, 1, both with 0 or 1 as the last one, and all with 2
        EDGES.due("states() of one behind two", x.states(), 6);
        ApartCost y = withActs(3);
        y.before(0, 1);
        y.before(0, 2);
        // the beginning, 0, 0 1, 0 2, and all with 1 or 2 as the last one
        EDGES.due("states() of two behind one", y.states(), 6);
    }

    private static void statesBesidesRefused() {
        EDGES.hold(10, "How many states there are.");
        ApartCost x = withActs(2);
        x.act(12, 0, 0, 1);
        x.before(0, 0);
        x.before(0, 2);
        EDGES.due("states()", x.states(), 5);
        x.before(0, 1);
        x.before(1, 0);
        EDGES.due("states()", x.states(), 3);
    }

    // Promise 11

    private static void runTooFewNodes() {
        EDGES.hold(11, "NONE when there are more states");
        long[] states = {1, 2, 5, 13, 33, 81, 193, 449, 1025, 2305, 5121};
        for (int acts = 0; acts <= 10; acts++) {
            ApartCost x = withActs(acts);
            EDGES.due("run(" + (states[acts] - 1) + ") of " + acts, x.run(states[acts] - 1), NONE);
            EDGES.due("stops(0): nothing was found", x.stops(0), NONE);
        }
    }

    private static void runJustEnoughNodes() {
        EDGES.hold(11, "if there are no more states than nodes");
        long[] states = {1, 2, 5, 13, 33, 81, 193, 449, 1025, 2305, 5121};
        for (int acts = 0; acts <= 10; acts++) {
            ApartCost x = withActs(acts);
            EDGES.due("run(" + states[acts] + ") of " + acts, x.run(states[acts]), 0);
            EDGES.due("stops(0): a row was found", x.stops(0), 0);
            EDGES.due("run(" + (states[acts] + 1) + ") of " + acts, x.run(states[acts] + 1), 0);
        }
    }

    private static void runNodesBelowZero() {
        EDGES.hold(11, "NONE when there are more states");
        ApartCost x = new ApartCost();
        for (long nodes : new long[] {0, -1, -2, Integer.MIN_VALUE, Long.MIN_VALUE}) {
            EDGES.due("run(" + nodes + ")", x.run(nodes), NONE);
        }
        EDGES.due("proved()", x.proved(), false);
    }

    private static void runNodesWrapAround() {
        EDGES.hold(11, "if there are no more states than nodes");
        for (long nodes : new long[] {1L << 31, 1L << 32, 1L << 40, Integer.MAX_VALUE, Long.MAX_VALUE}) {
            EDGES.due("run(" + nodes + ")", new ApartCost().run(nodes), 0);
        }
        for (long nodes : new long[] {-(1L << 32) + 1, -(1L << 32) + 9999}) {
            EDGES.due("run(" + nodes + ")", new ApartCost().run(nodes), NONE);
        }
    }

    private static void runEmptyRow() {
        EDGES.hold(11, "Answers how many acts it has");
        EDGES.due("run(1) without acts", new ApartCost().run(1), 0);
        EDGES.due("run(5121) of ten that do not pay", withActs(10).run(5121), 0);
    }

    private static void runFullRow() {
        EDGES.hold(11, "Finds the best row, if there are no more states than nodes. Answers how many acts it has");
        EDGES.due("run(5121) of ten that pay", fullRow().run(5121), 10);
    }

    private static void runRefusedKeepsTheRow() {
        EDGES.hold(11, "NONE when there are more states");
        ApartCost x = someRow();
        String due = Picture.ofAll(x);
        EDGES.due("run(80)", x.run(80), NONE);
        EDGES.due("what was found", Picture.ofAll(x), due);
    }

    // Promises 12 to 14

    private static void stepBeforeRun() {
        EDGES.hold(12, "NONE when there is none such");
        ApartCost x = withActs(10);
        x.worth(0, 5);
        for (int k = -1; k <= 10; k++) {
            EDGES.due("step(" + k + ")", x.step(k), NONE);
        }
        EDGES.due("run(1), refused", x.run(1), NONE);
        EDGES.due("step(0)", x.step(0), NONE);
    }

    private static void stepOfEmptyRow() {
        EDGES.hold(12, "NONE when there is none such");
        ApartCost x = emptyRow();
        for (int k = -1; k <= 10; k++) {
            EDGES.due("step(" + k + ")", x.step(k), NONE);
        }
        ApartCost shrunk = fullRow();
        for (int part = 0; part < 10; part++) {
            shrunk.worth(part, 0);
        }
        EDGES.due("run(5121): the row of none behind a row of ten", shrunk.run(5121), 0);
        EDGES.due("step(0)", shrunk.step(0), NONE);
        EDGES.due("step(9)", shrunk.step(9), NONE);
    }

    private static void stepOfFullRow() {
        EDGES.hold(12, "The k-th act of the best row that was found, from 0 on");
        ApartCost x = fullRow();
        for (int k = 0; k < 10; k++) {
            EDGES.due("step(" + k + ")", x.step(k), k);
        }
        EDGES.due("step(10)", x.step(10), NONE);
        EDGES.due("step(-1)", x.step(-1), NONE);
    }

    private static void stepWrong() {
        EDGES.hold(12, "NONE when there is none such");
        ApartCost x = someRow();
        EDGES.due("step(0)", x.step(0), 1);
        EDGES.due("step(1)", x.step(1), 3);
        EDGES.due("step(2)", x.step(2), NONE);
        EDGES.due("step(-1)", x.step(-1), NONE);
        for (int k : FAR) {
            EDGES.due("step(" + k + ")", x.step(k), NONE);
        }
    }

    private static void stopsBeforeRun() {
        EDGES.hold(13, "NONE likewise, and before run()");
        ApartCost x = withActs(3);
        for (int k = -1; k <= 12; k++) {
            EDGES.due("stops(" + k + ")", x.stops(k), NONE);
        }
        EDGES.due("run(12), refused", x.run(12), NONE);
        EDGES.due("stops(0)", x.stops(0), NONE);
        EDGES.due("run(13)", x.run(13), 0);
        EDGES.due("stops(0)", x.stops(0), 0);
    }

    private static void stopsOfEmptyRow() {
        EDGES.hold(13, "The k-th part, by numbers, that was not free by it");
        ApartCost x = emptyRow();
        for (int k = 0; k < 12; k++) {
            EDGES.due("stops(" + k + ")", x.stops(k), k);
        }
        EDGES.due("stops(12)", x.stops(12), NONE);
        EDGES.due("stops(-1)", x.stops(-1), NONE);
    }

    private static void stopsOfFullRow() {
        EDGES.hold(13, "The k-th part, by numbers, that was not free by it");
        ApartCost x = fullRow();
        EDGES.due("stops(0)", x.stops(0), 10);
        EDGES.due("stops(1)", x.stops(1), 11);
        EDGES.due("stops(2)", x.stops(2), NONE);
    }

    private static void stopsWrong() {
        EDGES.hold(13, "NONE likewise");
        ApartCost x = someRow();
        int[] due = {0, 2, 4, 5, 6, 7, 8, 9, 10, 11, NONE, NONE, NONE};
        for (int k = 0; k < due.length; k++) {
            EDGES.due("stops(" + k + ")", x.stops(k), due[k]);
        }
        EDGES.due("stops(-1)", x.stops(-1), NONE);
        for (int k : FAR) {
            EDGES.due("stops(" + k + ")", x.stops(k), NONE);
        }
    }

    private static void otherBeforeRun() {
        EDGES.hold(14, "NONE likewise");
        ApartCost x = withActs(10);
        for (int k = -1; k <= 10; k++) {
            EDGES.due("other(" + k + ")", x.other(k), NONE);
        }
        EDGES.due("run(1), refused", x.run(1), NONE);
        EDGES.due("other(0)", x.other(0), NONE);
    }

    private static void otherOfEmptyRow() {
        EDGES.hold(14, "The k-th act, by numbers, that is not in it");
        ApartCost x = emptyRow();
        for (int k = 0; k < 10; k++) {
            EDGES.due("other(" + k + ")", x.other(k), k);
        }
        EDGES.due("other(10)", x.other(10), NONE);
        EDGES.due("other(-1)", x.other(-1), NONE);
        ApartCost none = new ApartCost();
        none.run(1);
        EDGES.due("other(0) without acts", none.other(0), NONE);
    }

    private static void otherOfFullRow() {
        EDGES.hold(14, "that is not in it; NONE likewise");
        ApartCost x = fullRow();
        for (int k = -1; k <= 12; k++) {
            EDGES.due("other(" + k + ")", x.other(k), NONE);
        }
    }

    private static void otherWrong() {
        EDGES.hold(14, "NONE likewise");
        ApartCost x = someRow();
        int[] due = {0, 2, 4, NONE, NONE};
        for (int k = 0; k < due.length; k++) {
            EDGES.due("other(" + k + ")", x.other(k), due[k]);
        }
        EDGES.due("other(-1)", x.other(-1), NONE);
        for (int k : FAR) {
            EDGES.due("other(" + k + ")", x.other(k), NONE);
        }
    }

    // Promise 15

    private static void gainBeforeRun() {
        EDGES.hold(15, "0 before run()");
        ApartCost x = withActs(2);
        x.worth(0, 10);
        x.rest(4095, 10);
        for (int part = -2; part <= 12; part++) {
            EDGES.due("gain(" + part + ")", x.gain(part), 0);
        }
        EDGES.due("run(4), refused", x.run(4), NONE);
        EDGES.due("gain(NONE)", x.gain(NONE), 0);
        EDGES.due("gain(0)", x.gain(0), 0);
    }

    private static void gainOfOthers() {
        EDGES.hold(15, "0 before run() and for others");
        ApartCost x = someRow();
        EDGES.due("gain(NONE)", x.gain(NONE), 28 * CENT);
        EDGES.due("gain(12)", x.gain(12), 0);
        for (int part : FAR) {
            EDGES.due("gain(" + part + ")", x.gain(part), 0);
        }
        EDGES.due("gain(33)", x.gain(33), 0);
        EDGES.due("gain(13)", x.gain(13), 0);
    }

    private static void gainOfBroken() {
        EDGES.hold(15, "if it was free and whole; else 0");
        ApartCost x = new ApartCost();
        x.act(0, 0, 0, 1);
        x.act(1, 0, 0, 1);
        x.before(0, 1);
        x.breaks(0);
        x.worth(0, 50);
        x.worth(1, 7);
        EDGES.due("run(3)", x.run(3), 2);
        EDGES.due("gain(0), broken", x.gain(0), 0);
        EDGES.due("gain(1), whole", x.gain(1), 7 * CENT);
        EDGES.due("gain(NONE)", x.gain(NONE), 5 * CENT);
        EDGES.due("stops(0): 0 was free", x.stops(0), 2);
    }

    private static void gainOfNotFree() {
        EDGES.hold(15, "if it was free and whole; else 0");
        ApartCost x = someRow();
        x.worth(0, 1);
        x.worth(11, 1000000);
        EDGES.due("run(9999)", x.run(9999), 3);
        EDGES.dueRow(x, 0, 1, 3);
        EDGES.due("gain(0), which pays just its act", x.gain(0), CENT);
        EDGES.due("gain(11), which no act frees", x.gain(11), 0);
        EDGES.due("gain(2)", x.gain(2), 0);
        EDGES.due("gain(NONE)", x.gain(NONE), 28 * CENT);
    }

    private static void gainBelowZero() {
        EDGES.hold(15, "of NONE the row's gain");
        ApartCost x = withActs(1);
        x.worth(0, -1000000);
        x.rest(4095, -1000000);
        EDGES.due("run(2)", x.run(2), 0);
        EDGES.due("gain(NONE)", x.gain(NONE), -1000000 * CENT);
        x.worth(0, -999998);
        EDGES.due("run(2)", x.run(2), 1);
        EDGES.due("gain(NONE)", x.gain(NONE), -999999 * CENT);
        EDGES.due("gain(0)", x.gain(0), -999998 * CENT);
    }

    private static void gainOfEmptyRow() {
        EDGES.hold(15, "of NONE the row's gain");
        ApartCost x = emptyRow();
        for (int part = -1; part <= 11; part++) {
            EDGES.due("gain(" + part + ")", x.gain(part), 0);
        }
        x.rest(4095, 4);
        EDGES.due("run(5121)", x.run(5121), 0);
        EDGES.due("gain(NONE): the rest counts", x.gain(NONE), 4 * CENT);
        EDGES.due("gain(0)", x.gain(0), 0);
    }

    private static void gainGreatest() {
        EDGES.hold(15, "Of the best row that was found: what a part brought");
        ApartCost x = new ApartCost();
        for (int act = 0; act < 10; act++) {
            x.act(act + 2, 0, 0, 0);
            x.worth(act + 2, 1000000);
        }
        x.rest(3, 1000000);
        EDGES.due("run(5121)", x.run(5121), 10);
        EDGES.due("gain(NONE)", x.gain(NONE), 304920000000L);
        EDGES.due("gain(11)", x.gain(11), 27720000000L);
        EDGES.due("gain(1)", x.gain(1), 0);
    }

    private static void gainWithoutChance() {
        EDGES.hold(15, "its worth by its chance");
        ApartCost x = withActs(1);
        x.worth(0, 1000000);
        x.rest(4094, 5);
        x.sure(0, 0, 12);
        EDGES.due("run(2)", x.run(2), 1);
        EDGES.due("gain(0), without a chance", x.gain(0), 0);
        EDGES.due("gain(NONE)", x.gain(NONE), 4 * CENT);
        x.sure(0, 1, 12);
        x.run(2);
        EDGES.due("gain(0), a twelfth", x.gain(0), 2310000000L);
        x.worth(0, -1);
        x.sure(0, 11, 12);
        x.run(2);
        EDGES.due("gain(0), eleven twelfths of -1", x.gain(0), -25410);
        EDGES.due("gain(NONE)", x.gain(NONE), 4 * CENT - 25410);
    }

    // Promise 16

    private static void provedBeforeRun() {
        EDGES.hold(16, "Whether a row was found");
        ApartCost x = new ApartCost();
        EDGES.due("proved() of a new object", x.proved(), false);
        x.act(0, 0, 0, 0);
        EDGES.due("proved() without run()", x.proved(), false);
        EDGES.due("run(1), refused", x.run(1), NONE);
        EDGES.due("proved()", x.proved(), false);
        EDGES.due("stations(1), refused", x.stations(1), NONE);
        EDGES.due("test(0, 0)", x.test(0, 0), 0);
        EDGES.due("proved()", x.proved(), false);
    }

    private static void provedByRun() {
        EDGES.hold(16, "Whether a row was found");
        ApartCost x = new ApartCost();
        EDGES.due("run(1): the row of none", x.run(1), 0);
        EDGES.due("proved()", x.proved(), true);
        x.worth(0, 0);
        EDGES.due("proved()", x.proved(), false);
        EDGES.due("run(0), refused", x.run(0), NONE);
        EDGES.due("proved()", x.proved(), false);
        EDGES.due("run(1)", x.run(1), 0);
        EDGES.due("proved()", x.proved(), true);
    }

    private static void provedAndRefused() {
        EDGES.hold(16, "nothing that was told since was not refused");
        ApartCost x = fullRow();
        x.breaks(0);
        x.before(0, 1);
        for (int bits = 0; bits < 16; bits++) {
            x.rest(bits, 1);
        }
        x.run(5121);
        EDGES.due("act, an eleventh", x.act(0, 0, 0, 0), NONE);
        EDGES.due("proved()", x.proved(), true);
        EDGES.due("before(1, 0)", x.before(1, 0), false);
        EDGES.due("proved()", x.proved(), true);
        EDGES.due("change(0, 0, 1)", x.change(0, 0, 1), false);
        EDGES.due("proved()", x.proved(), true);
        EDGES.due("turn(0, 1, -1)", x.turn(0, 1, -1), false);
        EDGES.due("proved()", x.proved(), true);
        EDGES.due("worth(0, 1000001)", x.worth(0, 1000001), false);
        EDGES.due("proved()", x.proved(), true);
        EDGES.due("rest(16, 1), a seventeenth", x.rest(16, 1), false);
        EDGES.due("proved()", x.proved(), true);
        EDGES.due("breaks(0) again", x.breaks(0), false);
        EDGES.due("proved()", x.proved(), true);
        EDGES.due("sure(0, 2, 1)", x.sure(0, 2, 1), false);
        EDGES.due("proved()", x.proved(), true);
    }

    private static void provedAndTold() {
        EDGES.hold(16, "nothing that was told since was not refused");
        ApartCost x = withActs(2);
        x.run(5);
        EDGES.due("act", x.act(0, 0, 0, 0), 2);
        dueProvedAgain(x);
        EDGES.due("before(0, 1)", x.before(0, 1), true);
        dueProvedAgain(x);
        EDGES.due("change(0, 1, 0)", x.change(0, 1, 0), true);
        dueProvedAgain(x);
        EDGES.due("turn(0, 1, 0)", x.turn(0, 1, 0), true);
        dueProvedAgain(x);
        EDGES.due("worth(0, 0)", x.worth(0, 0), true);
        dueProvedAgain(x);
        EDGES.due("rest(0, 0)", x.rest(0, 0), true);
        dueProvedAgain(x);
        EDGES.due("rest(0, 0) again", x.rest(0, 0), true);
        dueProvedAgain(x);
        EDGES.due("breaks(1)", x.breaks(1), true);
        dueProvedAgain(x);
        EDGES.due("sure(0, 1, 1)", x.sure(0, 1, 1), true);
        dueProvedAgain(x);
    }

    private static void dueProvedAgain(ApartCost x) {
        EDGES.due("proved() behind it", x.proved(), false);
        EDGES.due("run(99)", x.run(99), 0);
        EDGES.due("proved() behind run()", x.proved(), true);
    }

    private static void provedAndAsked() {
        EDGES.hold(16, "nothing that was told since was not refused");
        ApartCost x = someRow();
        Picture.ofAll(x);
        x.test(0, 0);
        x.test(12, 0);
        x.stations(2);
        x.stations(5);
        x.run(80);
        EDGES.due("proved(): nothing was told", x.proved(), true);
    }

    // Promise 17

    private static void boundOfNothing() {
        EDGES.hold(17, "(0, if none is above)");
        ApartCost x = new ApartCost();
        EDGES.due("bound() of nothing", x.bound(), 0);
        x.rest(4095, 0);
        EDGES.due("bound() with a rest of 0", x.bound(), 0);
        x.rest(4095, -1);
        EDGES.due("bound() with a rest below 0", x.bound(), 0);
        x.rest(1, -1000000);
        EDGES.due("bound() with two", x.bound(), 0);
    }

    private static void boundBelowZero() {
        EDGES.hold(17, "all worths above 0");
        ApartCost x = new ApartCost();
        for (int part = 0; part < 12; part++) {
            x.worth(part, -1000000);
        }
        EDGES.due("bound() with all below 0", x.bound(), 0);
        x.worth(0, 1);
        EDGES.due("bound() with one above", x.bound(), CENT);
        x.worth(11, 1);
        EDGES.due("bound() with two above", x.bound(), 2 * CENT);
        x.worth(0, 0);
        EDGES.due("bound() with one of 0", x.bound(), CENT);
    }

    private static void boundGreatest() {
        EDGES.hold(17, "all worths above 0, each by its chance, and the greatest worth of a rest");
        ApartCost x = new ApartCost();
        for (int part = 0; part < 12; part++) {
            x.worth(part, 1000000);
        }
        EDGES.due("bound() of parts", x.bound(), 332640000000L);
        for (int bits = 0; bits < 16; bits++) {
            x.rest(bits, 1000000);
        }
        EDGES.due("bound() with rests, of which one counts", x.bound(), 360360000000L);
    }

    private static void boundByChance() {
        EDGES.hold(17, "each by its chance");
        ApartCost x = new ApartCost();
        x.worth(0, 1);
        x.worth(11, 1);
        x.sure(0, 0, 12);
        EDGES.due("bound() without a chance", x.bound(), 27720);
        x.sure(0, 1, 12);
        EDGES.due("bound() with a twelfth", x.bound(), 27720 + 2310);
        x.sure(11, 10, 11);
        EDGES.due("bound() with ten elevenths", x.bound(), 25200 + 2310);
        x.sure(0, 12, 12);
        EDGES.due("bound(), sure again", x.bound(), 25200 + 27720);
    }

    private static void boundOfRests() {
        EDGES.hold(17, "the greatest worth of a rest");
        ApartCost x = new ApartCost();
        for (int place = 0; place < 16; place++) {
            x.rest(place, place + 1);
        }
        for (int place = 15; place >= 0; place--) {
            EDGES.due("bound() with rests up to " + place, x.bound(), (place + 1) * CENT);
            x.rest(place, -1);
        }
        EDGES.due("bound() with all below 0", x.bound(), 0);
    }

    private static void boundIsReached() {
        EDGES.hold(17, "What no row gains more than, as things are");
        ApartCost x = new ApartCost();
        x.act(0, 0, 0, 0);
        x.worth(0, 9);
        x.rest(4094, 4);
        x.run(2);
        EDGES.due("bound()", x.bound(), 13 * CENT);
        EDGES.due("gain(NONE) is no more", x.gain(NONE), 13 * CENT);
        x.worth(0, 2);
        EDGES.due("bound() behind run(), as things are", x.bound(), 6 * CENT);
        EDGES.due("gain(NONE), as it was found", x.gain(NONE), 13 * CENT);
    }

    // Promise 18

    /** An act for 30 that frees part 0, worth 90 by a chance of a third: to be tested for less than 20. */
    private static ApartCost toBeTested() {
        ApartCost x = new ApartCost();
        x.act(0, 0, 0, 30);
        x.worth(0, 90);
        x.sure(0, 1, 3);
        return x;
    }

    private static void testPartWrong() {
        EDGES.hold(18, "NONE when there are none such");
        ApartCost x = toBeTested();
        EDGES.due("test(-1, 0)", x.test(-1, 0), NONE);
        EDGES.due("test(12, 0)", x.test(12, 0), NONE);
        for (int part : FAR) {
            EDGES.due("test(" + part + ", 0)", x.test(part, 0), NONE);
        }
        EDGES.due("test(12, -1)", x.test(12, -1), NONE);
        EDGES.due("test(0, 0)", x.test(0, 0), 1);
        EDGES.due("test(11, 0)", x.test(11, 0), 0);
    }

    private static void testCentsWrong() {
        EDGES.hold(18, "NONE when there are none such");
        ApartCost x = toBeTested();
        long[] wrong = {
            -1, -1000000, 1000001, Integer.MIN_VALUE, Integer.MAX_VALUE, Long.MIN_VALUE, Long.MAX_VALUE,
            1L << 32, -1L << 32, (1L << 32) + 1, 1L << 40,
        };
        for (long cents : wrong) {
            EDGES.due("test(0, " + cents + ")", x.test(0, cents), NONE);
        }
    }

    private static void testCentsEdges() {
        EDGES.hold(18, "for some cents (0 .. 1000000)");
        ApartCost x = toBeTested();
        EDGES.due("test(0, 0)", x.test(0, 0), 1);
        EDGES.due("test(0, 1000000)", x.test(0, 1000000), 0);
        EDGES.due("test(11, 1000000)", x.test(11, 1000000), 0);
    }

    private static void testNotMore() {
        EDGES.hold(18, "are more than the best gain without; 0 when not");
        ApartCost x = toBeTested();
        // if it is, 90 - 30, of which a third is 20; if not, and without, nothing
        EDGES.due("test(0, 19)", x.test(0, 19), 1);
        EDGES.due("test(0, 20): just as much", x.test(0, 20), 0);
        EDGES.due("test(0, 21)", x.test(0, 21), 0);
    }

    private static void testLeastMore() {
        EDGES.hold(18, "are more than the best gain without");
        ApartCost x = new ApartCost();
        x.act(0, 0, 0, 10);
        x.worth(0, 16);
        x.sure(0, 1, 8);
        // 1 / 8 + 5 / 9 + 4 / 5 + 3 / 7 + 1 / 11 of a cent are 2 cents and one 27720th
        long[] worths = {1, 5, 4, 3, 1};
        long[] belows = {8, 9, 5, 7, 11};
        for (int part = 1; part <= 5; part++) {
            x.act(part, 0, 0, 0);
            x.before(0, part);
            x.worth(part, worths[part - 1]);
            x.sure(part, 1, belows[part - 1]);
        }
        // if it is, 8 cents and one 27720th, of which an eighth is more than 1 by less than a 27720th
        EDGES.due("test(0, 1)", x.test(0, 1), 1);
        EDGES.due("test(0, 2)", x.test(0, 2), 0);
        x.worth(5, 0);
        EDGES.due("test(0, 1) with less than 8 cents", x.test(0, 1), 0);
    }

    private static void testSurePart() {
        EDGES.hold(18, "if a part is worth what was told, or nothing");
        ApartCost x = toBeTested();
        x.sure(0, 5, 5);
        EDGES.due("test(0, 0) of a sure part", x.test(0, 0), 0);
        for (int part = 1; part < 12; part++) {
            EDGES.due("test(" + part + ", 0)", x.test(part, 0), 0);
        }
    }

    private static void testWithoutChance() {
        EDGES.hold(18, "the chance's share of the best gain if it is, and the other share of that if it is not");
        ApartCost x = toBeTested();
        x.sure(0, 0, 5);
        EDGES.due("test(0, 0) without a chance", x.test(0, 0), 0);
        x.sure(0, 1, 12);
        // a twelfth of 60
        EDGES.due("test(0, 4)", x.test(0, 4), 1);
        EDGES.due("test(0, 5)", x.test(0, 5), 0);
        x.sure(0, 11, 12);
        // eleven twelfths of 60 are 55; without, 82 and a half less 30
        EDGES.due("test(0, 2)", x.test(0, 2), 1);
        EDGES.due("test(0, 3)", x.test(0, 3), 0);
    }

    private static void testWithoutActs() {
        EDGES.hold(18, "Whether it pays to find out at the beginning");
        ApartCost x = new ApartCost();
        x.worth(0, 1000000);
        x.sure(0, 1, 2);
        x.rest(4095, -5);
        for (int part = 0; part < 12; part++) {
            EDGES.due("test(" + part + ", 0)", x.test(part, 0), 0);
        }
        EDGES.due("proved(): test() finds no row", x.proved(), false);
        EDGES.due("stops(0)", x.stops(0), NONE);
    }

    private static void testGreatGains() {
        EDGES.hold(18, "less these cents, are more than the best gain without");
        ApartCost x = new ApartCost();
        x.act(0, 0, 0, 600000);
        x.worth(0, 1000000);
        x.sure(0, 1, 2);
        for (int part = 1; part < 10; part++) {
            x.act(part, 0, 0, 0);
            x.worth(part, 1000000);
        }
        // if it is, 9400000, if it is not, and without, 9000000
        EDGES.due("test(0, 199999)", x.test(0, 199999), 1);
        EDGES.due("test(0, 200000)", x.test(0, 200000), 0);
        EDGES.due("test(0, 1000000)", x.test(0, 1000000), 0);
        ApartCost y = new ApartCost();
        y.act(0, 0, 0, 0);
        y.worth(0, -1000000);
        y.sure(0, 1, 2);
        for (int part = 1; part < 10; part++) {
            y.act(part, 0, 0, 1000000);
            y.before(0, part);
            y.worth(part, 1000000);
        }
        y.rest(4095 - 1023, 500000);
        // without, and if it is, none; if it is not, the rest's 500000
        EDGES.due("test(0, 249999)", y.test(0, 249999), 1);
        EDGES.due("test(0, 250000)", y.test(0, 250000), 0);
    }

    private static void testBothShares() {
        EDGES.hold(18, "the chance's share of the best gain if it is, and the other share of that if it is not");
        ApartCost x = new ApartCost();
        x.act(0, 0, 0, 10);
        x.act(1, 0, 0, 10);
        x.rest(4095 - 3, -1000000);
        x.worth(0, 40);
        x.worth(1, 25);
        x.sure(0, 3, 4);
        // one of both: 30 by part 0 if it is, 15 by part 1 if not; without, 20 by part 0
        EDGES.due("test(0, 6): 22 and a half and 3 and 3 quarters are 26 and a quarter", x.test(0, 6), 1);
        EDGES.due("test(0, 7)", x.test(0, 7), 0);
        EDGES.due("test(1, 0): it is sure", x.test(1, 0), 0);
    }

    private static void testAsThingsAre() {
        EDGES.hold(18, "the best gain without");
        ApartCost x = toBeTested();
        x.run(2);
        x.worth(0, 60);
        // a third of 60 - 30
        EDGES.due("test(0, 9) behind run()", x.test(0, 9), 1);
        EDGES.due("test(0, 10)", x.test(0, 10), 0);
        EDGES.due("proved() still tells of run()", x.proved(), false);
        EDGES.due("run(2)", x.run(2), 0);
        EDGES.due("bound(): the chance is as it was", x.bound(), 20 * CENT);
    }
}
