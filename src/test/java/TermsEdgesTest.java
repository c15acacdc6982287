import java.util.List;

/** Boundary cases of the Terms: rows, costs and gains, refused calls, and what stays as it was found. */
public final class TermsEdgesTest {
    private static final Edges EDGES = new Edges();
    private static final int TERMS = Edges.TERMS;
    private static final int NONE = ApartCost.NONE;
    private static final long CENT = Edges.CENT;

    private interface Asking {
        long of(ApartCost x);
    }

    private record Call(String name, Asking asking) {
    }

    public static void main(String[] args) {
        fiveHundredAndTwelfthCall();
        partsAreTwelve();
        toolsAndSidesAreSix();
        actsAreTen();
        actFreesNone();
        rowOfNone();
        rowOfDifferentActs();
        rowBehindNeeds();
        costOfAllActs();
        costOfTheFirst();
        costNotTold();
        costBehindTheOneBefore();
        partFreedTwice();
        partBrokenByOne();
        worthBelowZero();
        worthByChance();
        restOfJustThatSet();
        restOfBrokenParts();
        gainOfAllThatCounts();
        gainIsWhole();
        bestIsTheFirst();
        bestIsTheBeginning();
        bestMayLoseFirst();
        statesAreTheBeginningFirst();
        statesHaveWhatTheyNeed();
        stationsAreOneToFour();

        refusedCalls();
        refusedCallsOfANewObject();
        refusedCallsOfAFullObject();
        foundStays();
        foundStaysBehindRefused();
        foundStaysUntilRun();
        foundStaysUntilStations();
        EDGES.end();
    }

    private static void fiveHundredAndTwelfthCall() {
        EDGES.hold(Edges.FIRST_WORDS, "An object is used for at most 512 calls after it has been made");
        ApartCost x = new ApartCost();
        for (int act = 0; act < 10; act++) {
            x.act(act, act % 6, act % 5, 3 + act);
            x.worth(act, 20);
        }
        for (int call = 21; call <= 500; call++) {
            EDGES.due("call " + call + ": rest", x.rest(call, 1), call < 21 + 16);
        }
        EDGES.due("call 501: run(5121)", x.run(5121), 10);
        // 12 and 7, 11 and 8, 10 and 9, and 3 to 6
        EDGES.due("call 502: stations(4)", x.stations(4), 19);
        for (int act = 0; act < 8; act++) {
            x.test(act, act);
        }
        EDGES.due("call 511: act, an eleventh", x.act(0, 0, 0, 0), NONE);
        EDGES.due("call 512: gain(NONE)", x.gain(NONE), (200 - 75) * CENT);
    }

    private static void partsAreTwelve() {
        EDGES.hold(TERMS, "There are PARTS, 0 .. 11");
        ApartCost x = new ApartCost();
        x.run(1);
        for (int part = 0; part < 12; part++) {
            EDGES.due("stops(" + part + ")", x.stops(part), part);
            EDGES.due("worth(" + part + ", 1)", x.worth(part, 1), true);
            EDGES.due("sure(" + part + ", 1, 2)", x.sure(part, 1, 2), true);
            EDGES.due("test(" + part + ", 0)", x.test(part, 0), 0);
        }
        EDGES.due("stops(12)", x.stops(12), NONE);
        EDGES.due("worth(12, 1)", x.worth(12, 1), false);
        EDGES.due("sure(12, 1, 2)", x.sure(12, 1, 2), false);
        EDGES.due("test(12, 0)", x.test(12, 0), NONE);
        EDGES.due("act(12, 0, 0, 0)", x.act(12, 0, 0, 0), NONE);
        EDGES.due("bound()", x.bound(), 6 * CENT);
    }

    private static void toolsAndSidesAreSix() {
        EDGES.hold(TERMS, "has a TOOL and a SIDE, each 0 .. 5");
        ApartCost x = new ApartCost();
        for (int kind = 0; kind < 6; kind++) {
            EDGES.due("act(0, kind, 5 - kind, 0)", x.act(0, kind, 5 - kind, 0), kind);
        }
        EDGES.due("act(0, 6, 0, 0)", x.act(0, 6, 0, 0), NONE);
        EDGES.due("act(0, 0, 6, 0)", x.act(0, 0, 6, 0), NONE);
        EDGES.due("act(0, -1, 0, 0)", x.act(0, -1, 0, 0), NONE);
        EDGES.due("act(0, 0, -1, 0)", x.act(0, 0, -1, 0), NONE);
    }

    private static void actsAreTen() {
        EDGES.hold(TERMS, "ACTS, numbered from 0 on, 10 at most (none at first)");
        ApartCost x = new ApartCost();
        EDGES.due("states() of none", x.states(), 1);
        for (int act = 0; act < 10; act++) {
            EDGES.due("act", x.act(11, 5, 5, 0), act);
        }
        EDGES.due("act, an eleventh", x.act(11, 5, 5, 0), NONE);
    }

    private static void actFreesNone() {
        EDGES.hold(TERMS, "An act FREES one part, or none (told as NONE)");
        ApartCost x = new ApartCost();
        x.act(NONE, 0, 0, 1);
        x.act(4, 0, 0, 1);
        x.before(0, 1);
        x.breaks(0);
        x.worth(4, 10);
        for (int part = 0; part < 12; part++) {
            if (part != 4) {
                x.worth(part, 1000);
            }
        }
        EDGES.due("run(3)", x.run(3), 2);
        EDGES.due("gain(NONE)", x.gain(NONE), 8 * CENT);
        EDGES.due("stops(0)", x.stops(0), 0);
        EDGES.due("stops(10)", x.stops(10), 11);
        EDGES.due("stops(11)", x.stops(11), NONE);
    }

    private static void rowOfNone() {
        EDGES.hold(TERMS, "A ROW is a row of different acts, perhaps of none");
        ApartCost x = new ApartCost();
        x.act(0, 0, 0, 1);
        x.worth(0, -5);
        EDGES.due("run(2)", x.run(2), 0);
        EDGES.due("gain(NONE)", x.gain(NONE), 0);
        EDGES.due("proved()", x.proved(), true);
    }

    private static void rowOfDifferentActs() {
        EDGES.hold(TERMS, "A ROW is a row of different acts");
        ApartCost x = new ApartCost();
        x.act(0, 0, 0, 0);
        x.worth(0, 5);
        EDGES.due("run(2)", x.run(2), 1);
        EDGES.dueRow(x, 0);
        EDGES.due("gain(NONE)", x.gain(NONE), 5 * CENT);
    }

    private static void rowBehindNeeds() {
        EDGES.hold(TERMS, "each behind all acts that it needs");
        ApartCost x = new ApartCost();
        for (int act = 0; act < 4; act++) {
            x.act(act, 0, 0, 1);
        }
        x.before(3, 0);
        x.before(1, 0);
        x.before(2, 1);
        x.worth(0, 100);
        EDGES.due("run(33)", x.run(33), 4);
        EDGES.dueRow(x, 2, 1, 3, 0);
        EDGES.due("gain(NONE)", x.gain(NONE), 96 * CENT);
        x.worth(0, 4);
        EDGES.due("run(33): all four cost as much", x.run(33), 0);
    }

    private static void costOfAllActs() {
        EDGES.hold(TERMS, "Its COST: the cents of all of them");
        ApartCost x = new ApartCost();
        for (int act = 0; act < 10; act++) {
            x.act(act, 0, 0, 1 << act);
            x.worth(act, 2000);
        }
        EDGES.due("run(5121)", x.run(5121), 10);
        EDGES.due("gain(NONE)", x.gain(NONE), (20000 - 1023) * CENT);
    }

    private static void costOfTheFirst() {
        EDGES.hold(TERMS, "for each but the first the CHANGE from the tool of the one before to its own");
        ApartCost x = new ApartCost();
        x.act(0, 5, 5, 3);
        x.worth(0, 10);
        for (int other = 0; other < 5; other++) {
            x.change(other, 5, 1000);
            x.change(5, other, 1000);
            x.turn(other, 5, 1000);
            x.turn(5, other, 1000);
        }
        EDGES.due("run(2)", x.run(2), 1);
        EDGES.due("gain(NONE)", x.gain(NONE), 7 * CENT);
        ApartCost y = new ApartCost();
        y.act(0, 0, 0, 3);
        y.act(1, 5, 5, 3);
        y.worth(1, 10);
        y.change(0, 5, 1000);
        y.turn(0, 5, 1000);
        EDGES.due("run(5): the first is not act 0", y.run(5), 1);
        EDGES.dueRow(y, 1);
        EDGES.due("gain(NONE)", y.gain(NONE), 7 * CENT);
    }

    private static void costNotTold() {
        EDGES.hold(TERMS, "(0 each, if it was not told)");
        ApartCost x = new ApartCost();
        x.act(0, 0, 5, 0);
        x.act(1, 5, 0, 0);
        x.worth(0, 1);
        x.worth(1, 1);
        x.change(5, 0, 1000);
        x.turn(0, 5, 1000);
        EDGES.due("run(5)", x.run(5), 2);
        EDGES.dueRow(x, 0, 1);
        EDGES.due("gain(NONE)", x.gain(NONE), 2 * CENT);
    }

    private static void costBehindTheOneBefore() {
        EDGES.hold(TERMS, "the TURN from the side of the one before to its own");
        ApartCost x = new ApartCost();
        for (int act = 0; act < 10; act++) {
            x.act(act, act % 2, act % 3, 1000);
            x.worth(act, 9000);
            if (act > 0) {
                x.before(act - 1, act);
            }
        }
        x.change(0, 1, 1);
        x.change(1, 0, 10);
        x.turn(0, 1, 100);
        x.turn(1, 2, 200);
        x.turn(2, 0, 300);
        EDGES.due("run(11)", x.run(11), 10);
        // five changes for 1, four for 10, and three rounds of turns
        EDGES.due("gain(NONE)", x.gain(NONE), (80000 - 5 - 40 - 1800) * CENT);
    }

    private static void partFreedTwice() {
        EDGES.hold(TERMS, "A part is FREE by a row if some act of it frees it");
        ApartCost x = new ApartCost();
        x.act(6, 0, 0, 0);
        x.act(6, 0, 0, 1);
        x.act(7, 0, 0, 0);
        x.before(0, 1);
        x.before(1, 2);
        x.worth(6, 10);
        x.worth(7, 10);
        EDGES.due("run(4)", x.run(4), 3);
        EDGES.due("gain(NONE): part 6 counts once", x.gain(NONE), 19 * CENT);
        EDGES.due("gain(6)", x.gain(6), 10 * CENT);
        EDGES.due("stops(6)", x.stops(6), 8);
    }

    private static void partBrokenByOne() {
        EDGES.hold(TERMS, "and WHOLE if none of those breaks");
        for (int breaking = 0; breaking < 2; breaking++) {
            ApartCost x = new ApartCost();
            x.act(6, 0, 0, 0);
            x.act(6, 0, 0, 0);
            x.act(7, 0, 0, 0);
            x.worth(6, 10);
            x.worth(7, 10);
            x.breaks(breaking);
            x.run(13);
            EDGES.due("gain(NONE): the act that breaks is left out", x.gain(NONE), 20 * CENT);
            EDGES.due("other(0)", x.other(0), breaking);
            EDGES.due("other(1)", x.other(1), NONE);
            x.before(breaking, 2);
            x.worth(7, 11);
            EDGES.due("run(99)", x.run(99), 3);
            EDGES.due("gain(6): the act that breaks is needed", x.gain(6), 0);
            EDGES.due("gain(NONE)", x.gain(NONE), 11 * CENT);
        }
    }

    private static void worthBelowZero() {
        EDGES.hold(TERMS, "Its WORTH (0 at first, it may be below 0) counts if it is free and whole");
        ApartCost x = new ApartCost();
        x.act(0, 0, 0, 0);
        x.act(1, 0, 0, 0);
        x.before(0, 1);
        x.worth(0, -4);
        x.worth(1, 5);
        EDGES.due("run(3)", x.run(3), 2);
        EDGES.due("gain(NONE)", x.gain(NONE), CENT);
        x.worth(0, -5);
        EDGES.due("run(3): nothing is left", x.run(3), 0);
        x.breaks(0);
        EDGES.due("run(3): what is broken does not count", x.run(3), 2);
        EDGES.due("gain(NONE)", x.gain(NONE), 5 * CENT);
    }

    private static void worthByChance() {
        EDGES.hold(TERMS, "a part that is not SURE is worth that only by a CHANCE, a fraction");
        ApartCost x = new ApartCost();
        x.act(0, 0, 0, 5);
        x.worth(0, 60);
        x.sure(0, 1, 12);
        EDGES.due("run(2): a twelfth is just the cost", x.run(2), 0);
        x.sure(0, 1, 11);
        EDGES.due("run(2): an eleventh is more", x.run(2), 1);
        EDGES.due("gain(NONE)", x.gain(NONE), 60 * 2520 - 5 * CENT);
        x.sure(0, 0, 1);
        EDGES.due("run(2): no chance", x.run(2), 0);
    }

    private static void restOfJustThatSet() {
        EDGES.hold(TERMS, "if a worth was told for just that set of parts (the sum of 2^p for its parts p), it counts, too");
        ApartCost x = new ApartCost();
        x.act(0, 0, 0, 1);
        x.act(11, 0, 0, 1);
        x.rest(4095 - 1 - 2048, 50);
        EDGES.due("run(5): without parts 0 and 11", x.run(5), 2);
        EDGES.due("gain(NONE)", x.gain(NONE), 48 * CENT);
        x.rest(4095 - 1 - 2048, 2);
        EDGES.due("run(5): no more than the cost", x.run(5), 0);
        x.rest(4095 - 2048, 3);
        EDGES.due("run(5): without part 11", x.run(5), 1);
        EDGES.dueRow(x, 1);
        EDGES.due("gain(NONE)", x.gain(NONE), 2 * CENT);
        x.rest(4095, 2);
        EDGES.due("run(5): all parts, as much", x.run(5), 0);
        EDGES.due("gain(NONE)", x.gain(NONE), 2 * CENT);
        x.rest(4094, 1000000);
        EDGES.due("run(5): without part 0", x.run(5), 1);
        EDGES.dueRow(x, 0);
        EDGES.due("gain(NONE)", x.gain(NONE), 999999 * CENT);
    }

    private static void restOfBrokenParts() {
        EDGES.hold(TERMS, "THE REST are the parts that are not free");
        ApartCost x = new ApartCost();
        x.act(3, 0, 0, 1);
        x.breaks(0);
        x.worth(3, 1000);
        x.rest(4095 - 8, 5);
        EDGES.due("run(2)", x.run(2), 1);
        EDGES.due("gain(NONE): broken, but free", x.gain(NONE), 4 * CENT);
    }

    private static void gainOfAllThatCounts() {
        EDGES.hold(TERMS, "THE GAIN of a row: what counts, less its cost.");
        ApartCost x = new ApartCost();
        x.act(0, 0, 0, 3);
        x.act(1, 1, 1, 5);
        x.act(2, 2, 2, 7);
        x.before(0, 1);
        x.before(1, 2);
        x.breaks(1);
        x.change(0, 1, 11);
        x.turn(1, 2, 13);
        x.worth(0, 100);
        x.worth(1, 1000);
        x.worth(2, 300);
        x.sure(2, 1, 12);
        x.rest(4095 - 7, -17);
        EDGES.due("run(4)", x.run(4), 1);
        EDGES.due("gain(NONE) of the first alone", x.gain(NONE), 97 * CENT);
        x.rest(4094, -17);
        x.sure(2, 2, 3);
        EDGES.due("run(4)", x.run(4), 3);
        // 100, nothing for what is broken, 200 by the chance, and the rest; less 15, 11 and 13
        EDGES.due("gain(NONE) of all three", x.gain(NONE), (100 + 200 - 17 - 15 - 11 - 13) * CENT);
    }

    private static void gainIsWhole() {
        EDGES.hold(TERMS, "It is told in 27720ths of a cent (so that it is whole)");
        ApartCost x = new ApartCost();
        int[] belows = {5, 7, 8, 9, 11};
        int[] aboves = {4, 3, 1, 5, 1};
        for (int part = 0; part < 5; part++) {
            x.act(part, 0, 0, 0);
            x.worth(part, 1);
            x.sure(part, aboves[part], belows[part]);
        }
        EDGES.due("run(81)", x.run(81), 5);
        EDGES.due("gain(NONE): 4/5 + 3/7 + 1/8 + 5/9 + 1/11", x.gain(NONE), 2 * CENT + 1);
    }

    private static void bestIsTheFirst() {
        EDGES.hold(TERMS, "of two the one with the lesser act where they differ first");
        ApartCost x = new ApartCost();
        for (int act = 0; act < 10; act++) {
            x.act(0, 0, 0, 1);
        }
        x.worth(0, 5);
        EDGES.due("run(5121): any of ten", x.run(5121), 1);
        EDGES.dueRow(x, 0);
        x.before(9, 0);
        x.breaks(1);
        EDGES.due("run(5121)", x.run(5121), 1);
        EDGES.dueRow(x, 2);
        ApartCost y = new ApartCost();
        for (int act = 0; act < 3; act++) {
            y.act(act, 0, 0, 0);
        }
        y.worth(2, 5);
        EDGES.due("run(13): 0, 1, 2 comes before 0, 2 and before 2", y.run(13), 3);
        EDGES.dueRow(y, 0, 1, 2);
    }

    private static void bestIsTheBeginning() {
        EDGES.hold(TERMS, "one that is the beginning of another one comes before it");
        ApartCost x = new ApartCost();
        for (int act = 0; act < 10; act++) {
            x.act(act, 0, 0, 0);
        }
        EDGES.due("run(5121): all gain nothing", x.run(5121), 0);
        x.worth(0, 5);
        EDGES.due("run(5121): 0 alone", x.run(5121), 1);
        EDGES.dueRow(x, 0);
        x.worth(1, 5);
        EDGES.due("run(5121): 0, 1", x.run(5121), 2);
        EDGES.dueRow(x, 0, 1);
    }

    private static void bestMayLoseFirst() {
        EDGES.hold(TERMS, "THE BEST row has the greatest gain");
        ApartCost x = new ApartCost();
        for (int act = 0; act < 10; act++) {
            x.act(act == 0 ? 0 : NONE, 0, 0, 100000);
            if (act > 0) {
                x.before(act, act - 1);
            }
        }
        x.worth(0, 1000000);
        EDGES.due("run(11): ten acts cost as much", x.run(11), 0);
        x.rest(4094, 1);
        EDGES.due("run(11): ten acts for one cent", x.run(11), 10);
        EDGES.dueRow(x, 9, 8, 7, 6, 5, 4, 3, 2, 1, 0);
        EDGES.due("gain(NONE)", x.gain(NONE), CENT);
    }

    private static void statesAreTheBeginningFirst() {
        EDGES.hold(TERMS, "STATES are: the beginning, and each pair of a set of acts, that has all that they need");
        ApartCost x = new ApartCost();
        EDGES.due("states(): the beginning alone", x.states(), 1);
        x.act(0, 0, 0, 0);
        EDGES.due("states(): and 0", x.states(), 2);
        x.act(1, 0, 0, 0);
        EDGES.due("states(): and 1, and both with either as the last one", x.states(), 5);
        x.before(1, 0);
        EDGES.due("states(): the beginning, 1, and both with 0", x.states(), 3);
    }

    private static void statesHaveWhatTheyNeed() {
        EDGES.hold(TERMS, "one of it that none of the others needs (the last one)");
        ApartCost x = new ApartCost();
        for (int act = 0; act < 4; act++) {
            x.act(0, 0, 0, 0);
        }
        x.before(0, 1);
        x.before(1, 2);
        // 0 1 2 in line are 3 sets with one last act each; act 3 goes with the none and with these:
        // the beginning, 3, and for each of the 3 sets: its own, and with act 3 both of the two
        EDGES.due("states()", x.states(), 1 + 1 + 3 * 3);
        x.before(3, 2);
        // 0, 0 1, 3, 0 3, 0 1 3 with two lasts each, and all with 2
        EDGES.due("states()", x.states(), 1 + 1 + 1 + 1 + 2 + 2 + 1);
    }

    private static void stationsAreOneToFour() {
        EDGES.hold(TERMS, "STATIONS, 1 to 4, stand in line");
        ApartCost x = new ApartCost();
        x.act(0, 0, 0, 5);
        x.worth(0, 9);
        x.run(2);
        EDGES.due("stations(0)", x.stations(0), NONE);
        for (int n = 1; n <= 4; n++) {
            EDGES.due("stations(" + n + ")", x.stations(n), 5);
        }
        EDGES.due("stations(5)", x.stations(5), NONE);
        EDGES.due("station(0), from 0 on", x.station(0), 0);
    }

    // What refused calls leave, and what stays

    /** Four acts with all that can be told of them; the row 1, 3, 0, shared out to two. */
    private static ApartCost rich() {
        ApartCost x = new ApartCost();
        x.act(0, 0, 1, 30);
        x.act(1, 1, 0, 20);
        x.act(2, 2, 2, 90);
        x.act(3, 0, 0, 25);
        x.before(1, 0);
        x.before(1, 3);
        x.change(0, 1, 7);
        x.change(1, 0, 4);
        x.turn(0, 1, 3);
        x.turn(1, 0, 2);
        x.worth(0, 120);
        x.worth(1, -10);
        x.worth(2, 40);
        x.worth(3, 80);
        x.sure(0, 3, 4);
        x.sure(3, 2, 3);
        x.rest(4095, 2);
        x.rest(4095 - 11, 6);
        x.breaks(2);
        x.run(99);
        x.stations(2);
        return x;
    }

    /** Ten acts and sixteen rests: no more of them can be told. */
    private static ApartCost full() {
        ApartCost x = new ApartCost();
        for (int act = 0; act < 10; act++) {
            x.act(act, act % 6, act % 6, 3);
            x.worth(act, 9);
        }
        for (int place = 0; place < 16; place++) {
            x.rest(4095 - place, place % 5);
        }
        x.run(5121);
        x.stations(3);
        return x;
    }

    private static List<Call> refusedByRich() {
        return List.of(
            new Call("act(-2, 0, 0, 0)", x -> x.act(-2, 0, 0, 0)),
            new Call("act(12, 0, 0, 0)", x -> x.act(12, 0, 0, 0)),
            new Call("act(4, 6, 0, 0)", x -> x.act(4, 6, 0, 0)),
            new Call("act(4, 0, -1, 0)", x -> x.act(4, 0, -1, 0)),
            new Call("act(4, 0, 0, 1000001)", x -> x.act(4, 0, 0, 1000001)),
            new Call("before(0, 1)", x -> told(x.before(0, 1))),
            new Call("before(2, 2)", x -> told(x.before(2, 2))),
            new Call("before(0, 4)", x -> told(x.before(0, 4))),
            new Call("before(-1, 2)", x -> told(x.before(-1, 2))),
            new Call("change(0, 0, 5)", x -> told(x.change(0, 0, 5))),
            new Call("change(0, 6, 5)", x -> told(x.change(0, 6, 5))),
            new Call("change(1, 0, -1)", x -> told(x.change(1, 0, -1))),
            new Call("turn(0, 0, 5)", x -> told(x.turn(0, 0, 5))),
            new Call("turn(-1, 0, 5)", x -> told(x.turn(-1, 0, 5))),
            new Call("turn(1, 0, 1000001)", x -> told(x.turn(1, 0, 1000001))),
            new Call("worth(12, 5)", x -> told(x.worth(12, 5))),
            new Call("worth(0, 1000001)", x -> told(x.worth(0, 1000001))),
            new Call("rest(4096, 5)", x -> told(x.rest(4096, 5))),
            new Call("rest(4095, -1000001)", x -> told(x.rest(4095, -1000001))),
            new Call("breaks(4)", x -> told(x.breaks(4))),
            new Call("breaks(2)", x -> told(x.breaks(2))),
            new Call("sure(12, 1, 2)", x -> told(x.sure(12, 1, 2))),
            new Call("sure(0, 1, 13)", x -> told(x.sure(0, 1, 13))),
            new Call("sure(0, 3, 2)", x -> told(x.sure(0, 3, 2))),
            new Call("run(12)", x -> x.run(12)),
            new Call("test(12, 0)", x -> x.test(12, 0)),
            new Call("test(0, -1)", x -> x.test(0, -1)),
            new Call("stations(0)", x -> x.stations(0)),
            new Call("stations(5)", x -> x.stations(5)));
    }

    /** So that both kinds of refusing answers are the same. */
    private static long told(boolean answer) {
        return answer ? 1 : NONE;
    }

    private static void refusedCalls() {
        EDGES.hold(TERMS, "A call that is refused changes nothing.");
        for (Call call : refusedByRich()) {
            ApartCost x = rich();
            String due = Picture.ofAll(x);
            EDGES.due(call.name(), call.asking().of(x), NONE);
            EDGES.due("all answers behind " + call.name(), Picture.ofAll(x), due);
            dueAsItsTwin(call.name(), x, rich());
        }
    }

    /** What is found from here on is the same, too. */
    private static void dueAsItsTwin(String name, ApartCost x, ApartCost twin) {
        for (int part = 0; part < 12; part++) {
            EDGES.due("test(" + part + ", 3) behind " + name, x.test(part, 3), twin.test(part, 3));
        }
        EDGES.due("run(5121) behind " + name, x.run(5121), twin.run(5121));
        EDGES.due("stations(3) behind " + name, x.stations(3), twin.stations(3));
        EDGES.due("all that is found behind " + name, Picture.ofAll(x), Picture.ofAll(twin));
        EDGES.due("the next act behind " + name, x.act(5, 1, 1, 1), twin.act(5, 1, 1, 1));
        EDGES.due("states() behind " + name, x.states(), twin.states());
    }

    private static void refusedCallsOfANewObject() {
        EDGES.hold(TERMS, "A call that is refused changes nothing.");
        ApartCost x = new ApartCost();
        String due = Picture.ofAll(x);
        EDGES.due("act", x.act(12, 0, 0, 0), NONE);
        EDGES.due("before", x.before(0, 1), false);
        EDGES.due("change", x.change(6, 0, 0), false);
        EDGES.due("turn", x.turn(6, 0, 0), false);
        EDGES.due("worth", x.worth(12, 0), false);
        EDGES.due("rest", x.rest(4096, 0), false);
        EDGES.due("breaks", x.breaks(0), false);
        EDGES.due("sure", x.sure(0, 0, 0), false);
        EDGES.due("run", x.run(0), NONE);
        EDGES.due("stations", x.stations(1), NONE);
        EDGES.due("all answers", Picture.ofAll(x), due);
        dueAsItsTwin("all of them", x, new ApartCost());
    }

    private static void refusedCallsOfAFullObject() {
        EDGES.hold(TERMS, "A call that is refused changes nothing.");
        ApartCost x = full();
        String due = Picture.ofAll(x);
        EDGES.due("act", x.act(10, 0, 0, 0), NONE);
        EDGES.due("rest", x.rest(16, 1000000), false);
        EDGES.due("all answers", Picture.ofAll(x), due);
        dueAsItsTwin("both", x, full());
    }

    private static List<Call> toldToRich() {
        return List.of(
            new Call("before(2, 1)", x -> told(x.before(2, 1))),
            new Call("before(1, 0) again", x -> told(x.before(1, 0))),
            new Call("change(1, 0, 1000000)", x -> told(x.change(1, 0, 1000000))),
            new Call("turn(0, 1, 1000000)", x -> told(x.turn(0, 1, 1000000))),
            new Call("worth(0, -1000000)", x -> told(x.worth(0, -1000000))),
            new Call("worth(2, 1000000)", x -> told(x.worth(2, 1000000))),
            new Call("rest(4095, 1000000)", x -> told(x.rest(4095, 1000000))),
            new Call("rest(4095 - 4, 1000000)", x -> told(x.rest(4095 - 4, 1000000))),
            new Call("breaks(0)", x -> told(x.breaks(0))),
            new Call("breaks(1)", x -> told(x.breaks(1))),
            new Call("sure(0, 0, 1)", x -> told(x.sure(0, 0, 1))),
            new Call("sure(1, 1, 2)", x -> told(x.sure(1, 1, 2))));
    }

    private static void foundStays() {
        EDGES.hold(TERMS, "stays until the next of these that is not refused, whatever is told");
        for (Call call : toldToRich()) {
            ApartCost x = rich();
            String due = Picture.ofFound(x);
            int other = x.other(0);
            EDGES.due(call.name(), call.asking().of(x), 1);
            EDGES.due("what was found, behind " + call.name(), Picture.ofFound(x), due);
            EDGES.due("other(0) behind " + call.name(), x.other(0), other);
            EDGES.due("other(1) behind " + call.name(), x.other(1), NONE);
        }
        ApartCost x = rich();
        String due = Picture.ofFound(x);
        EDGES.due("act(2, 0, 0, 0)", x.act(2, 0, 0, 0), 4);
        EDGES.due("what was found, behind another act", Picture.ofFound(x), due);
    }

    private static void foundStaysBehindRefused() {
        EDGES.hold(TERMS, "the next of these that is not refused");
        ApartCost x = rich();
        x.worth(0, -1000000);
        x.worth(2, 1000000);
        String due = Picture.ofFound(x);
        EDGES.due("run(12), refused", x.run(12), NONE);
        EDGES.due("stations(0), refused", x.stations(0), NONE);
        EDGES.due("stations(5), refused", x.stations(5), NONE);
        EDGES.due("test(0, 0)", x.test(0, 0), 0);
        EDGES.due("what was found", Picture.ofFound(x), due);
    }

    private static void foundStaysUntilRun() {
        EDGES.hold(TERMS, "What was found by run() and stations() stays until the next of these");
        ApartCost x = rich();
        EDGES.dueRow(x, 1, 3, 0);
        x.worth(0, -1000000);
        x.worth(3, 0);
        x.rest(4095 - 4, 200);
        EDGES.dueRow(x, 1, 3, 0);
        EDGES.due("gain(0): three quarters of 120", x.gain(0), 90 * CENT);
        EDGES.due("run(99)", x.run(99), 1);
        EDGES.dueRow(x, 2);
        EDGES.due("gain(0)", x.gain(0), 0);
        EDGES.due("gain(NONE): the rest less the act", x.gain(NONE), 110 * CENT);
        EDGES.due("stops(2)", x.stops(2), 3);
    }

    private static void foundStaysUntilStations() {
        EDGES.hold(TERMS, "What was found by run() and stations() stays until the next of these");
        ApartCost x = rich();
        EDGES.dueStations(x, 1, 0, NONE, 0);
        x.before(0, 3);
        EDGES.dueStations(x, 1, 0, NONE, 0);
        EDGES.due("stations(1)", x.stations(1), 75);
        EDGES.dueStations(x, 0, 0, NONE, 0);
        EDGES.dueRow(x, 1, 3, 0);
        EDGES.due("stations(2): 3 is behind 0 by now", x.stations(2), 50);
        EDGES.dueStations(x, 0, 0, NONE, 1);
    }
}
