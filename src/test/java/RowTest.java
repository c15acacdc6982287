/** Promises 10 to 18: states, the best row and what is told of it, its bound, and tests. */
public final class RowTest {
    private static final Check CHECK = new Check();
    private static final long CENT = 27720L;

    public static void main(String[] args) {
        states();
        nodes();
        firstOfTheBest();
        aBeginningComesFirst();
        nothingBeforeRun();
        whatIsInTheRow();
        partFreedTwice();
        whatWasFoundStays();
        actToldLater();
        proved();
        bound();
        testing();
        testingAgainstTheWorst();
        testingFindsNothing();
        CHECK.end();
    }

    private static void states() {
        ApartCost x = new ApartCost();
        long[] due = {1, 2, 5, 13, 33, 81, 193, 449, 1025, 2305, 5121};
        for (int acts = 0; acts <= 10; acts++) {
            CHECK.due("states of " + acts + " acts", x.states(), due[acts]);
            x.act(0, 0, 0, 0);
        }
        for (int act = 1; act < 10; act++) {
            x.before(act - 1, act);
        }
        CHECK.due("states of a chain", x.states(), 11);
        ApartCost star = new ApartCost();
        for (int act = 0; act < 4; act++) {
            star.act(0, 0, 0, 0);
        }
        star.before(0, 3);
        star.before(1, 3);
        star.before(2, 3);
        CHECK.due("states of a star", star.states(), 14);
    }

    private static void nodes() {
        ApartCost x = new ApartCost();
        CHECK.due("run(0) of none", x.run(0), -1);
        CHECK.due("run(least)", x.run(Long.MIN_VALUE), -1);
        CHECK.due("run: none was found", x.stops(0), -1);
        CHECK.due("run(1) of none", x.run(1), 0);
        x.act(0, 0, 0, 1);
        x.act(1, 0, 0, 1);
        x.worth(1, 5);
        CHECK.due("run(4) of five states", x.run(4), -1);
        CHECK.due("run(4): the row before stays", x.step(0), -1);
        CHECK.due("run(4): the row before stays", x.stops(11), 11);
        CHECK.due("run(5) of five states", x.run(5), 1);
        CHECK.due("run(most)", x.run(Long.MAX_VALUE), 1);
        CHECK.due("run(2^32)", x.run(1L << 32), 1);
    }

    private static void firstOfTheBest() {
        ApartCost x = new ApartCost();
        for (int act = 0; act < 10; act++) {
            x.act(act, 0, 0, 5);
            x.worth(act, 6);
        }
        CHECK.due("first: all ten", x.run(5121), 10);
        CHECK.dueRow("first: by numbers", x, 0, 1, 2, 3, 4, 5, 6, 7, 8, 9);
        x.before(9, 0);
        x.before(5, 1);
        x.run(5121);
        CHECK.dueRow("first: behind what they need", x, 2, 3, 4, 5, 1, 6, 7, 8, 9, 0);
    }

    private static void aBeginningComesFirst() {
        ApartCost x = new ApartCost();
        x.act(0, 0, 0, 5);
        x.act(1, 0, 0, 5);
        x.act(2, 0, 0, 5);
        x.worth(0, 5);
        CHECK.due("beginning: the row of none", x.run(99), 0);
        x.worth(0, 6);
        x.worth(1, 5);
        CHECK.due("beginning: no more than wins", x.run(99), 1);
        x.worth(0, 5);
        x.worth(1, 6);
        x.worth(2, 5);
        CHECK.due("beginning: the lesser act first, though it wins nothing", x.run(99), 2);
        CHECK.dueRow("beginning", x, 0, 1);
        x.worth(0, 4);
        x.run(99);
        CHECK.dueRow("beginning: without the one that loses", x, 1);
    }

    private static void nothingBeforeRun() {
        ApartCost x = new ApartCost();
        x.act(0, 0, 0, 1);
        x.act(1, 0, 0, 1);
        x.worth(0, 10);
        x.rest(4095, 10);
        CHECK.due("not run: a refused run", x.run(4), -1);
        CHECK.due("not run: step(0)", x.step(0), -1);
        CHECK.due("not run: stops(0)", x.stops(0), -1);
        CHECK.due("not run: other(0)", x.other(0), -1);
        CHECK.due("not run: gain(-1)", x.gain(-1), 0);
        CHECK.due("not run: gain(0)", x.gain(0), 0);
        CHECK.due("not run: proved()", x.proved(), false);
    }

    private static void whatIsInTheRow() {
        ApartCost x = new ApartCost();
        x.act(7, 0, 0, 10);
        x.act(2, 0, 0, 500);
        x.act(-1, 0, 0, 1);
        x.act(11, 0, 0, 0);
        x.act(0, 0, 0, 10);
        x.before(2, 0);
        x.worth(7, 30);
        x.worth(2, 400);
        x.worth(11, -3);
        x.worth(0, 20);
        CHECK.due("row: acts", x.run(9999), 3);
        CHECK.dueRow("row", x, 2, 0, 4);
        CHECK.due("row: step(-1)", x.step(-1), -1);
        CHECK.due("row: step(least)", x.step(Integer.MIN_VALUE), -1);
        CHECK.due("row: step(most)", x.step(Integer.MAX_VALUE), -1);
        CHECK.due("row: stops(-1)", x.stops(-1), -1);
        int[] stops = {1, 2, 3, 4, 5, 6, 8, 9, 10, 11, -1, -1, -1};
        for (int k = 0; k < stops.length; k++) {
            CHECK.due("row: stops(" + k + ")", x.stops(k), stops[k]);
        }
        CHECK.due("row: stops(most)", x.stops(Integer.MAX_VALUE), -1);
        CHECK.due("row: other(-1)", x.other(-1), -1);
        CHECK.due("row: other(0)", x.other(0), 1);
        CHECK.due("row: other(1)", x.other(1), 3);
        CHECK.due("row: other(2)", x.other(2), -1);
        CHECK.due("row: other(most)", x.other(Integer.MAX_VALUE), -1);
        CHECK.due("row: gain(-1)", x.gain(-1), 29 * CENT);
        CHECK.due("row: gain(7)", x.gain(7), 30 * CENT);
        CHECK.due("row: gain(0)", x.gain(0), 20 * CENT);
        CHECK.due("row: gain(2), not free", x.gain(2), 0);
        CHECK.due("row: gain(11), not free", x.gain(11), 0);
        CHECK.due("row: gain(-2)", x.gain(-2), 0);
        CHECK.due("row: gain(12)", x.gain(12), 0);
    }

    private static void partFreedTwice() {
        ApartCost x = new ApartCost();
        x.act(3, 0, 0, 1);
        x.act(3, 0, 0, 1);
        x.act(4, 0, 0, 1);
        x.before(0, 2);
        x.before(1, 2);
        x.worth(3, -7);
        x.worth(4, 50);
        CHECK.due("twice: acts", x.run(99), 3);
        CHECK.due("twice: its worth counts once", x.gain(-1), 40 * CENT);
        CHECK.due("twice: what it brought", x.gain(3), -7 * CENT);
    }

    private static void whatWasFoundStays() {
        ApartCost x = new ApartCost();
        x.act(0, 0, 0, 1);
        x.act(1, 0, 0, 1);
        x.worth(0, 10);
        x.run(99);
        x.worth(0, -10);
        x.worth(1, 99);
        x.sure(0, 1, 2);
        x.breaks(0);
        x.before(1, 0);
        x.rest(4094, 77);
        x.test(0, 1);
        CHECK.due("stays: a refused run", x.run(1), -1);
        CHECK.dueRow("stays", x, 0);
        CHECK.due("stays: gain(0)", x.gain(0), 10 * CENT);
        CHECK.due("stays: gain(1)", x.gain(1), 0);
        CHECK.due("stays: gain(-1)", x.gain(-1), 9 * CENT);
        CHECK.due("stays: stops(0)", x.stops(0), 1);
        CHECK.due("stays: other(0)", x.other(0), 1);
        CHECK.due("stays: the next one", x.run(99), 1);
        CHECK.dueRow("stays: the next one", x, 1);
        CHECK.due("stays: gain(0) of the next one", x.gain(0), 0);
        CHECK.due("stays: gain(-1) of the next one", x.gain(-1), 98 * CENT);
    }

    private static void actToldLater() {
        ApartCost x = new ApartCost();
        x.act(0, 0, 0, 1);
        x.worth(0, 10);
        x.run(99);
        CHECK.due("later: other(0) before", x.other(0), -1);
        x.act(1, 0, 0, 1);
        CHECK.due("later: an act that is not in the row", x.other(0), 1);
        CHECK.due("later: its part was not free", x.stops(0), 1);
        CHECK.dueRow("later: the row", x, 0);
    }

    private static void proved() {
        ApartCost x = new ApartCost();
        x.run(0);
        CHECK.due("proved: a refused run", x.proved(), false);
        x.run(1);
        CHECK.due("proved: run", x.proved(), true);
        x.act(0, 0, 0, 1);
        CHECK.due("proved: act", again(x), false);
        x.act(1, 0, 0, 1);
        CHECK.due("proved: act", again(x), false);
        x.before(0, 1);
        CHECK.due("proved: before", again(x), false);
        x.before(0, 1);
        CHECK.due("proved: before, though it was so", again(x), false);
        x.change(0, 1, 0);
        CHECK.due("proved: change", again(x), false);
        x.turn(0, 1, 0);
        CHECK.due("proved: turn", again(x), false);
        x.worth(5, 0);
        CHECK.due("proved: worth", again(x), false);
        x.rest(5, 0);
        CHECK.due("proved: rest", again(x), false);
        x.breaks(1);
        CHECK.due("proved: breaks", again(x), false);
        x.sure(5, 1, 1);
        CHECK.due("proved: sure", again(x), false);
        asking(x);
        CHECK.due("proved: asking tells nothing", x.proved(), true);
        x.worth(5, 0);
        x.run(1);
        CHECK.due("proved: a refused run proves nothing", x.proved(), false);
    }

    private static boolean again(ApartCost x) {
        boolean was = x.proved();
        CHECK.due("proved: found again", x.run(99) >= 0 && x.proved(), true);
        return was;
    }

    private static void asking(ApartCost x) {
        x.states();
        x.step(0);
        x.stops(0);
        x.other(0);
        x.gain(0);
        x.bound();
        x.test(0, 0);
        x.stations(2);
        x.station(0);
        x.run(1);
    }

    private static void bound() {
        ApartCost x = new ApartCost();
        x.worth(0, 10);
        x.worth(1, -20);
        x.worth(2, 30);
        x.sure(2, 1, 3);
        CHECK.due("bound: worths above 0 by their chance", x.bound(), 20 * CENT);
        x.rest(7, -5);
        CHECK.due("bound: a rest below 0", x.bound(), 20 * CENT);
        x.rest(8, 5);
        x.rest(9, 4);
        CHECK.due("bound: the greatest rest", x.bound(), 25 * CENT);
        x.rest(8, 1);
        CHECK.due("bound: as things are", x.bound(), 24 * CENT);
        x.sure(0, 0, 5);
        CHECK.due("bound: no chance", x.bound(), 14 * CENT);
    }

    private static void testing() {
        ApartCost x = new ApartCost();
        x.act(0, 0, 0, 30);
        x.worth(0, 90);
        x.sure(0, 1, 3);
        // with luck 60, without 0; not tested 0: a third of 60 is 20
        CHECK.due("test(0, 19)", x.test(0, 19), 1);
        CHECK.due("test(0, 20): no more than without", x.test(0, 20), 0);
        CHECK.due("test(0, 0)", x.test(0, 0), 1);
        CHECK.due("test(0, 1000000)", x.test(0, 1000000), 0);
        CHECK.due("test(0, 1000001)", x.test(0, 1000001), -1);
        CHECK.due("test(0, -1)", x.test(0, -1), -1);
        CHECK.due("test(0, most)", x.test(0, Long.MAX_VALUE), -1);
        CHECK.due("test(-1, 0)", x.test(-1, 0), -1);
        CHECK.due("test(12, 0)", x.test(12, 0), -1);
        CHECK.due("test(11, 0): sure", x.test(11, 0), 0);
        x.sure(0, 1, 7);
        // a seventh of 60 is 8 and 4 sevenths: not rounded
        CHECK.due("test(0, 8)", x.test(0, 8), 1);
        CHECK.due("test(0, 9)", x.test(0, 9), 0);
        x.sure(0, 2, 3);
        // not tested 60 - 30 = 30, tested two thirds of 60: 10 more
        CHECK.due("test: against what wins anyway", x.test(0, 9), 1);
        CHECK.due("test: against what wins anyway", x.test(0, 10), 0);
        CHECK.due("test: no row was needed", x.proved(), false);
        CHECK.due("test: nothing was found by it", x.stops(0), -1);
    }

    private static void testingAgainstTheWorst() {
        ApartCost x = new ApartCost();
        x.act(0, 0, 0, 0);
        x.act(1, 0, 0, 0);
        x.before(0, 1);
        x.worth(0, -90);
        x.worth(1, 30);
        x.sure(0, 1, 2);
        // not tested -45 + 30: none; if it is nothing, 30: a half of it is 15
        CHECK.due("test: a worth below 0", x.test(0, 14), 1);
        CHECK.due("test: a worth below 0", x.test(0, 15), 0);
        CHECK.due("test: another part", x.test(1, 0), 0);
    }

    private static void testingFindsNothing() {
        ApartCost x = new ApartCost();
        x.act(0, 0, 0, 30);
        x.worth(0, 90);
        x.sure(0, 1, 3);
        x.run(9);
        x.test(0, 1);
        CHECK.dueRow("test: the row stays", x);
        CHECK.due("test: its gain stays", x.gain(-1), 0);
        CHECK.due("test: the chance stays", x.bound(), 30 * CENT);
        CHECK.due("test: still none", x.run(9), 0);
    }
}
