/** The document from its first line: each sentence of "What it is" and of the Terms, in its order. */
public final class TermsSentencesTest {
    private static final Edges EDGES = new Edges();
    private static final Sentences SENTENCES = new Sentences(EDGES);
    private static final int NONE = ApartCost.NONE;
    private static final long CENT = Edges.CENT;

    public static void main(String[] args) {
        SENTENCES.section(Edges.FIRST_WORDS, "");
        takesAProductApart();
        callsOfAnObject();

        SENTENCES.section(Edges.TERMS, "");
        partsAndActs();
        whatAnActHas();
        rows();
        costs();
        freeAndWhole();
        worths();
        rests();
        gains();
        gainsInWholeNumbers();
        theBestRow();
        states();
        stations();
        theLongest();
        refusedCalls();
        whatWasFoundStays();
        SENTENCES.end();
    }

    private static void takesAProductApart() {
        SENTENCES.hold("Takes a product apart at least cost: acts free its parts, each behind those that it needs,"
            + " with tools and turns; which row of acts wins most, where it stops, what testing a part is worth,"
            + " and how the acts of the row are best shared out to stations in line.");
        ApartCost x = new ApartCost();
        int lid = x.act(0, 0, 0, 100);
        int motor = x.act(1, 1, 0, 50);
        int board = x.act(2, 0, 1, 40);
        int foot = x.act(3, 0, 0, 60);
        x.before(lid, motor);
        x.before(lid, board);
        x.change(0, 1, 25);
        x.change(1, 0, 25);
        x.turn(0, 1, 10);
        x.turn(1, 0, 10);
        x.worth(1, 500);
        x.sure(1, 1, 2);
        x.worth(2, 90);
        x.worth(3, 20);
        EDGES.due("run", x.run(x.states()), 3);
        // the motor last: one change and two turns, 45, against 25 + 25 + 10 with the board last
        EDGES.dueRow(x, lid, board, motor);
        EDGES.due("gain(NONE)", x.gain(NONE), (250 + 90 - 100 - 40 - 50 - 45) * CENT);
        EDGES.due("stops(0): the foot stays", x.stops(0), 3);
        EDGES.due("other(0)", x.other(0), foot);
        // with luck 590 - 235, else nothing: a half of 355 is 72 and a half more than 105
        EDGES.due("test for 72", x.test(1, 72), 1);
        EDGES.due("test for 73", x.test(1, 73), 0);
        EDGES.due("stations(2)", x.stations(2), 100);
        EDGES.dueStations(x, 0, 1, 1, NONE);
    }

    private static void callsOfAnObject() {
        SENTENCES.hold("An object is used for at most 512 calls after it has been made;"
            + " what later calls answer is free.");
        ApartCost x = new ApartCost();
        EDGES.due("call 1: act", x.act(0, 0, 0, 5), 0);
        EDGES.due("call 2: act", x.act(1, 0, 0, 5), 1);
        for (int call = 3; call <= 509; call++) {
            EDGES.due("call " + call + ": worth", x.worth(call % 2, call), true);
        }
        EDGES.due("call 510: run", x.run(5), 2);
        EDGES.due("call 511: gain(NONE)", x.gain(NONE), (508 + 509 - 10) * CENT);
        EDGES.due("call 512: stations(2)", x.stations(2), 5);
        for (int more = 0; more < 40; more++) {
            allCalls(x, more % 14 - 1);
        }
    }

    /** Answers that are free are not looked at, but no call may throw. */
    private static void allCalls(ApartCost x, int number) {
        x.act(number, number % 6, 0, number);
        x.before(number, number - 1);
        x.change(number, 0, number);
        x.turn(0, number, number);
        x.worth(number, number);
        x.rest(number, number);
        x.breaks(number);
        x.sure(number, 1, number);
        x.states();
        x.run(9999);
        x.step(number);
        x.stops(number);
        x.other(number);
        x.gain(number);
        x.proved();
        x.bound();
        x.test(number, number);
        x.stations(number);
        x.station(number);
    }

    private static void partsAndActs() {
        SENTENCES.hold("There are PARTS, 0 .. 11, and ACTS, numbered from 0 on, 10 at most (none at first).");
        ApartCost x = new ApartCost();
        EDGES.due("run(1): no acts", x.run(1), 0);
        EDGES.due("other(0): no acts", x.other(0), NONE);
        for (int part = 0; part < 12; part++) {
            EDGES.due("stops(" + part + ")", x.stops(part), part);
        }
        EDGES.due("stops(12): no more parts", x.stops(12), NONE);
        for (int number = 0; number < 10; number++) {
            EDGES.due("act", x.act(number, 0, 0, 1), number);
        }
        EDGES.due("act: no more acts", x.act(10, 0, 0, 1), NONE);
        EDGES.due("run(5121)", x.run(5121), 0);
        for (int number = 0; number < 10; number++) {
            EDGES.due("other(" + number + ")", x.other(number), number);
        }
        EDGES.due("other(10)", x.other(10), NONE);
    }

    private static void whatAnActHas() {
        SENTENCES.hold("An act FREES one part, or none (told as NONE), has a TOOL and a SIDE, each 0 .. 5,"
            + " costs CENTS, may BREAK what it frees, and NEEDS some acts before it.");
        ApartCost x = new ApartCost();
        x.act(NONE, 2, 3, 10);
        x.act(4, 3, 1, 20);
        x.act(5, 3, 1, 30);
        x.before(0, 1);
        x.before(1, 2);
        x.worth(4, 500);
        x.worth(5, 100);
        EDGES.due("run(4)", x.run(4), 3);
        EDGES.dueRow(x, 0, 1, 2);
        EDGES.due("gain(NONE), less the cents", x.gain(NONE), 540 * CENT);
        EDGES.due("stops(3): none is freed by act 0", x.stops(3), 3);
        EDGES.due("stops(4): 4 and 5 are free", x.stops(4), 6);
        x.change(2, 3, 7);
        x.turn(3, 1, 5);
        x.breaks(1);
        EDGES.due("run(4)", x.run(4), 3);
        EDGES.due("gain(4): broken", x.gain(4), 0);
        EDGES.due("gain(NONE), less change and turn", x.gain(NONE), (100 - 60 - 12) * CENT);
    }

    private static void rows() {
        SENTENCES.hold("A ROW is a row of different acts, perhaps of none, each behind all acts that it needs.");
        ApartCost x = new ApartCost();
        for (int act = 0; act < 3; act++) {
            x.act(act, 0, 0, 5);
        }
        x.before(2, 0);
        x.before(1, 0);
        x.worth(0, 100);
        EDGES.due("run(6)", x.run(6), 3);
        EDGES.dueRow(x, 1, 2, 0);
        EDGES.due("gain(NONE): each act once", x.gain(NONE), 85 * CENT);
        x.worth(0, 14);
        EDGES.due("run(6): the row of none", x.run(6), 0);
        EDGES.dueRow(x);
        EDGES.due("gain(NONE)", x.gain(NONE), 0);
    }

    private static void costs() {
        SENTENCES.hold("Its COST: the cents of all of them; and for each but the first the CHANGE from the tool of"
            + " the one before to its own, and the TURN from the side of the one before to its own"
            + " (0 each, if it was not told).");
        ApartCost x = new ApartCost();
        x.act(0, 0, 0, 10);
        x.act(1, 1, 0, 20);
        x.act(2, 1, 2, 30);
        x.act(3, 4, 3, 40);
        x.before(0, 1);
        x.before(1, 2);
        x.before(2, 3);
        x.worth(3, 500);
        dueCost(x, "the cents alone", 100);
        x.change(0, 1, 3);
        dueCost(x, "the change to act 1", 103);
        x.turn(0, 2, 7);
        dueCost(x, "the turn to act 2", 110);
        x.change(1, 4, 5);
        x.turn(2, 3, 9);
        dueCost(x, "both to act 3", 124);
        x.change(5, 0, 900);
        x.turn(3, 0, 900);
        x.change(4, 1, 900);
        dueCost(x, "none to act 0, and none the other way round", 124);
    }

    private static void dueCost(ApartCost x, String name, long cents) {
        EDGES.due("run(5), " + name, x.run(5), 4);
        EDGES.due("gain(NONE), " + name, x.gain(NONE), (500 - cents) * CENT);
    }

    private static void freeAndWhole() {
        SENTENCES.hold("A part is FREE by a row if some act of it frees it, and WHOLE if none of those breaks.");
        ApartCost x = new ApartCost();
        x.act(2, 0, 0, 10);
        x.act(2, 0, 0, 10);
        x.act(3, 0, 0, 10);
        x.before(1, 2);
        x.worth(2, 50);
        x.worth(3, 80);
        EDGES.due("run(8)", x.run(8), 2);
        EDGES.dueRow(x, 1, 2);
        EDGES.due("gain(2): free and whole", x.gain(2), 50 * CENT);
        EDGES.due("gain(NONE)", x.gain(NONE), 110 * CENT);
        x.breaks(1);
        EDGES.due("run(8)", x.run(8), 2);
        EDGES.dueRow(x, 1, 2);
        EDGES.due("gain(2): broken", x.gain(2), 0);
        EDGES.due("gain(NONE)", x.gain(NONE), 60 * CENT);
        EDGES.due("stops(2): parts 2 and 3 are free", x.stops(2), 4);
        x.before(0, 1);
        EDGES.due("run(4): freed by act 0, too", x.run(4), 3);
        EDGES.due("gain(2): broken by one of the two", x.gain(2), 0);
        EDGES.due("gain(NONE)", x.gain(NONE), 50 * CENT);
    }

    private static void worths() {
        SENTENCES.hold("Its WORTH (0 at first, it may be below 0) counts if it is free and whole; a part that is not"
            + " SURE is worth that only by a CHANCE, a fraction, of which its worth is multiplied by.");
        ApartCost x = new ApartCost();
        x.act(0, 0, 0, 5);
        x.act(1, 0, 0, 5);
        x.before(0, 1);
        EDGES.due("run(3): worth 0 at first", x.run(3), 0);
        x.worth(0, -20);
        x.worth(1, 90);
        x.worth(2, 1000);
        EDGES.due("run(3)", x.run(3), 2);
        EDGES.due("gain(2): not free", x.gain(2), 0);
        EDGES.due("gain(NONE)", x.gain(NONE), (90 - 20 - 10) * CENT);
        x.sure(1, 2, 3);
        EDGES.due("run(3): by two thirds", x.run(3), 2);
        EDGES.due("gain(1)", x.gain(1), 60 * CENT);
        EDGES.due("gain(NONE)", x.gain(NONE), (60 - 20 - 10) * CENT);
        x.sure(1, 1, 3);
        EDGES.due("run(3): by one third, not more than it costs", x.run(3), 0);
        x.sure(0, 1, 4);
        EDGES.due("run(3): what is below 0 has a chance, too", x.run(3), 2);
        EDGES.due("gain(0)", x.gain(0), -5 * CENT);
        EDGES.due("gain(NONE)", x.gain(NONE), (30 - 5 - 10) * CENT);
    }

    private static void rests() {
        SENTENCES.hold("THE REST are the parts that are not free; if a worth was told for just that set of parts"
            + " (the sum of 2^p for its parts p), it counts, too.");
        ApartCost x = new ApartCost();
        x.act(1, 0, 0, 4);
        x.act(3, 0, 0, 6);
        x.rest(4095 - 2, 10);
        EDGES.due("run(5): all but part 1", x.run(5), 1);
        EDGES.dueRow(x, 0);
        EDGES.due("gain(NONE)", x.gain(NONE), 6 * CENT);
        x.rest(4095 - 2 - 8, 18);
        EDGES.due("run(5): all but parts 1 and 3", x.run(5), 2);
        EDGES.due("gain(NONE)", x.gain(NONE), 8 * CENT);
        x.worth(3, 100);
        EDGES.due("run(5)", x.run(5), 2);
        EDGES.due("gain(NONE): a part's worth and the rest's", x.gain(NONE), 108 * CENT);
        x.worth(3, 0);
        x.rest(4, 1000);
        x.rest(4095, 9);
        EDGES.due("run(5): all parts", x.run(5), 0);
        EDGES.due("gain(NONE): no row leaves part 2 alone", x.gain(NONE), 9 * CENT);
    }

    private static void gains() {
        SENTENCES.hold("THE GAIN of a row: what counts, less its cost.");
        ApartCost x = new ApartCost();
        x.act(0, 0, 0, 12);
        x.act(1, 2, 1, 8);
        x.before(0, 1);
        x.change(0, 2, 6);
        x.turn(0, 1, 2);
        x.worth(0, 40);
        EDGES.due("run(3)", x.run(3), 1);
        EDGES.due("gain(NONE) of act 0", x.gain(NONE), 28 * CENT);
        x.worth(1, 100);
        x.sure(1, 3, 4);
        x.rest(4092, 11);
        EDGES.due("run(3)", x.run(3), 2);
        EDGES.due("gain(NONE) of both", x.gain(NONE), (40 + 75 + 11 - 12 - 8 - 6 - 2) * CENT);
        x.rest(4092, -11);
        EDGES.due("run(3)", x.run(3), 2);
        EDGES.due("gain(NONE) with a rest below 0", x.gain(NONE), (40 + 75 - 11 - 12 - 8 - 6 - 2) * CENT);
    }

    private static void gainsInWholeNumbers() {
        SENTENCES.hold("It is told in 27720ths of a cent (so that it is whole).");
        for (int below = 1; below <= 12; below++) {
            ApartCost x = new ApartCost();
            x.act(0, 0, 0, 1);
            x.worth(0, 12);
            EDGES.due("sure(0, 1, " + below + ")", x.sure(0, 1, below), true);
            x.rest(4094, 1);
            EDGES.due("run(2)", x.run(2), 1);
            EDGES.due("gain(0) by one of " + below, x.gain(0) * below, 12 * 27720);
            EDGES.due("gain(NONE), the rest and the cost made even", x.gain(NONE), x.gain(0));
        }
    }

    private static void theBestRow() {
        SENTENCES.hold("THE BEST row has the greatest gain; of those the first: of two the one with the lesser act"
            + " where they differ first; one that is the beginning of another one comes before it.");
        ApartCost x = new ApartCost();
        x.act(1, 0, 0, 9);
        x.act(0, 0, 0, 4);
        x.act(0, 0, 0, 4);
        x.worth(0, 10);
        EDGES.due("run(13): 1 or 2", x.run(13), 1);
        EDGES.dueRow(x, 1);
        x.act(0, 0, 0, 3);
        EDGES.due("run(33): 3 gains more", x.run(33), 1);
        EDGES.dueRow(x, 3);
        x.worth(1, 9);
        EDGES.due("run(33): 0, 3 gains as much as 3", x.run(33), 2);
        EDGES.dueRow(x, 0, 3);
        x.worth(1, 10);
        EDGES.due("run(33): 0, 3 or 3, 0", x.run(33), 2);
        EDGES.dueRow(x, 0, 3);
        x.act(5, 0, 0, 0);
        EDGES.due("run(81): 0, 3 comes before 0, 3, 4", x.run(81), 2);
        EDGES.dueRow(x, 0, 3);
        x.worth(0, 3);
        x.worth(1, 9);
        EDGES.due("run(81): the row of none comes before all", x.run(81), 0);
    }

    private static void states() {
        SENTENCES.hold("STATES are: the beginning, and each pair of a set of acts, that has all that they need, and"
            + " one of it that none of the others needs (the last one).");
        ApartCost x = new ApartCost();
        for (int act = 0; act < 3; act++) {
            x.act(act, 0, 0, 1);
        }
        // three sets of one, three of two with two lasts each, one of three with three
        EDGES.due("states()", x.states(), 1 + 3 + 6 + 3);
        x.before(0, 2);
        // 0; 1; 0 1 with both; 0 2 with 2; all with 1 and with 2
        EDGES.due("states()", x.states(), 1 + 1 + 1 + 2 + 1 + 2);
        x.before(1, 0);
        // 1; 1 0; all with 2
        EDGES.due("states()", x.states(), 1 + 1 + 1 + 1);
    }

    /** Acts that are all in the best row, for the sake of its rest. */
    private static ApartCost found(long... cents) {
        ApartCost x = new ApartCost();
        int rest = 4095;
        for (int act = 0; act < cents.length; act++) {
            x.act(act, 0, 0, cents[act]);
            x.worth(act, cents[act]);
            rest -= 1 << act;
        }
        x.rest(rest, 1);
        EDGES.due("run(5121)", x.run(5121), cents.length);
        return x;
    }

    private static void stations() {
        SENTENCES.hold("STATIONS, 1 to 4, stand in line: each act of the best row is done at one, no act at an earlier"
            + " one than an act of the row that it needs (it itself, or what it needs, and so on).");
        ApartCost x = found(4, 4, 4);
        EDGES.due("stations(2)", x.stations(2), 8);
        EDGES.dueStations(x, 0, 0, 1, NONE);
        x.before(2, 0);
        EDGES.due("stations(2): 0 is not before 2", x.stations(2), 8);
        EDGES.dueStations(x, 0, 1, 0, NONE);
        x.before(1, 2);
        EDGES.due("stations(2): 1, 2, 0 in line", x.stations(2), 8);
        EDGES.dueStations(x, 1, 0, 0, NONE);
        EDGES.due("stations(3)", x.stations(3), 4);
        EDGES.dueStations(x, 2, 0, 1, NONE);
        ApartCost z = found(4, 1, 3);
        z.before(2, 0);
        z.before(0, 1);
        EDGES.due("stations(2): 2, 0, 1 in line, so 1 is not with 2", z.stations(2), 5);
        EDGES.dueStations(z, 1, 1, 0, NONE);
        ApartCost y = found(4, 4);
        y.act(2, 0, 0, 4);
        y.before(2, 0);
        y.before(1, 2);
        EDGES.due("stations(2): 0 needs 1 through an act that is not in the row", y.stations(2), 4);
        EDGES.dueStations(y, 1, 0, NONE);
    }

    private static void theLongest() {
        SENTENCES.hold("THE LONGEST is the greatest sum of cents of the acts of a station; it is to be least; of all"
            + " ways to share out with the least, the one is told that gives the act of the least number the least"
            + " station, then the next, and so on.");
        ApartCost x = found(3, 5, 4, 6);
        EDGES.due("stations(1)", x.stations(1), 18);
        EDGES.dueStations(x, 0, 0, 0, 0);
        EDGES.due("stations(2): 3 + 6 and 5 + 4", x.stations(2), 9);
        EDGES.dueStations(x, 0, 1, 1, 0);
        EDGES.due("stations(3): 3 + 4, 5, 6", x.stations(3), 7);
        EDGES.dueStations(x, 0, 1, 0, 2);
        EDGES.due("stations(4)", x.stations(4), 6);
        EDGES.dueStations(x, 0, 1, 2, 3);
        ApartCost y = found(1, 1, 5, 1);
        EDGES.due("stations(3): the first takes what it can", y.stations(3), 5);
        EDGES.dueStations(y, 0, 0, 1, 0);
    }

    private static void refusedCalls() {
        SENTENCES.hold("A call that is refused changes nothing.");
        ApartCost x = found(3, 5, 4);
        x.before(0, 2);
        x.breaks(1);
        x.run(9999);
        x.stations(2);
        String due = Picture.ofAll(x);
        EDGES.due("act", x.act(0, 6, 0, 1), NONE);
        EDGES.due("before", x.before(2, 0), false);
        EDGES.due("change", x.change(0, 0, 9), false);
        EDGES.due("turn", x.turn(0, 1, -9), false);
        EDGES.due("worth", x.worth(1, 2000000), false);
        EDGES.due("rest", x.rest(5000, 9), false);
        EDGES.due("breaks", x.breaks(1), false);
        EDGES.due("sure", x.sure(0, 5, 4), false);
        EDGES.due("run", x.run(3), NONE);
        EDGES.due("test", x.test(20, 0), NONE);
        EDGES.due("stations", x.stations(7), NONE);
        EDGES.due("all answers", Picture.ofAll(x), due);
        EDGES.due("run again", x.run(9999) >= 0 && x.stations(2) >= 0, true);
        EDGES.due("all that is found again", Picture.ofAll(x), due);
    }

    private static void whatWasFoundStays() {
        SENTENCES.hold("What was found by run() and stations() stays until the next of these that is not refused,"
            + " whatever is told.");
        ApartCost x = found(3, 5);
        EDGES.due("stations(2)", x.stations(2), 5);
        String due = Picture.ofFound(x);
        x.act(2, 1, 1, 7);
        x.before(1, 0);
        x.change(0, 1, 50);
        x.turn(0, 1, 50);
        x.worth(0, -30);
        x.worth(2, 90);
        x.rest(4095 - 3, -30);
        x.breaks(1);
        x.sure(0, 1, 2);
        EDGES.due("run(7), refused", x.run(7), NONE);
        EDGES.due("stations(0), refused", x.stations(0), NONE);
        EDGES.due("what was found", Picture.ofFound(x), due);
        EDGES.due("stations(1)", x.stations(1), 8);
        EDGES.dueStations(x, 0, 0, NONE);
        EDGES.dueRow(x, 0, 1);
        EDGES.due("run(8)", x.run(8), 1);
        EDGES.dueRow(x, 2);
        EDGES.due("gain(NONE)", x.gain(NONE), 83 * CENT);
        EDGES.due("stops(2): part 2 is free by now", x.stops(2), 3);
    }
}
