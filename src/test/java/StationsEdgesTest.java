/** Boundary cases of promises 19 and 20: how the acts of the row are shared out to stations in line. */
public final class StationsEdgesTest {
    private static final Edges EDGES = new Edges();
    private static final int NONE = ApartCost.NONE;
    private static final int[] NO_NUMBERS = {0, 5, -1, -4, 32, 33, Integer.MIN_VALUE, Integer.MAX_VALUE};

    public static void main(String[] args) {
        stationsBeforeRun();
        stationsWrongNumber();
        stationsNumberEdges();
        stationsOfEmptyRow();
        stationsOfOneAct();
        stationsMoreThanActs();
        stationsOfFreeActs();
        stationsOfTenActs();
        stationsOfDearestActs();
        stationsOfAChain();
        stationsOfAChainBackwards();
        stationsOfTheRowAlone();
        stationsAsThingsAre();
        stationsOfTheRowThatWasFound();
        stationsCountActsAlone();
        stationsLongestComesFirst();

        stationBeforeStations();
        stationBehindRefused();
        stationOfActsNotInTheRow();
        stationWrongAct();
        stationByTheLatest();
        stationBehindRun();
        stationBehindTelling();
        EDGES.end();
    }

    /** Acts that are all in the best row, for the sake of its rest. */
    private static ApartCost allInTheRow(long... cents) {
        ApartCost x = new ApartCost();
        int rest = 4095;
        for (int act = 0; act < cents.length; act++) {
            x.act(act, 0, 0, cents[act]);
            x.worth(act, cents[act]);
            rest -= 1 << act;
        }
        x.rest(rest, 1);
        return x;
    }

    private static ApartCost found(long... cents) {
        ApartCost x = allInTheRow(cents);
        EDGES.due("run(5121)", x.run(5121), cents.length);
        return x;
    }

    // Promise 19

    private static void stationsBeforeRun() {
        EDGES.hold(19, "NONE when no row was found");
        ApartCost none = new ApartCost();
        ApartCost x = allInTheRow(3, 4);
        for (int n = 1; n <= 4; n++) {
            EDGES.due("stations(" + n + ") of a new object", none.stations(n), NONE);
            EDGES.due("stations(" + n + ") before run()", x.stations(n), NONE);
        }
        EDGES.due("run(4), refused", x.run(4), NONE);
        EDGES.due("stations(1)", x.stations(1), NONE);
        EDGES.dueStations(x, NONE, NONE);
    }

    private static void stationsWrongNumber() {
        EDGES.hold(19, "or the number is not such");
        ApartCost x = found(3, 4);
        for (int n : NO_NUMBERS) {
            EDGES.due("stations(" + n + ")", x.stations(n), NONE);
        }
        EDGES.dueStations(x, NONE, NONE);
        ApartCost empty = found();
        for (int n : NO_NUMBERS) {
            EDGES.due("stations(" + n + ") of the row of none", empty.stations(n), NONE);
        }
    }

    private static void stationsNumberEdges() {
        EDGES.hold(19, "to so many stations (1 .. 4)");
        ApartCost x = found(3, 4, 5, 6, 7);
        EDGES.due("stations(1)", x.stations(1), 25);
        EDGES.dueStations(x, 0, 0, 0, 0, 0);
        EDGES.due("stations(4)", x.stations(4), 7);
        EDGES.dueStations(x, 0, 0, 1, 2, 3);
        EDGES.due("stations(2)", x.stations(2), 13);
        EDGES.dueStations(x, 0, 0, 0, 1, 1);
        EDGES.due("stations(3)", x.stations(3), 9);
        EDGES.dueStations(x, 0, 1, 1, 0, 2);
    }

    private static void stationsOfEmptyRow() {
        EDGES.hold(19, "Answers the longest");
        ApartCost none = new ApartCost();
        EDGES.due("run(1)", none.run(1), 0);
        ApartCost x = new ApartCost();
        x.act(0, 0, 0, 5);
        EDGES.due("run(2)", x.run(2), 0);
        for (int n = 1; n <= 4; n++) {
            EDGES.due("stations(" + n + ") without acts", none.stations(n), 0);
            EDGES.due("stations(" + n + ") of the row of none", x.stations(n), 0);
        }
        EDGES.due("station(0) without acts", none.station(0), NONE);
        EDGES.due("station(0)", x.station(0), NONE);
    }

    private static void stationsOfOneAct() {
        EDGES.hold(19, "Shares out the best row that was found");
        ApartCost x = found(9);
        for (int n = 1; n <= 4; n++) {
            EDGES.due("stations(" + n + ")", x.stations(n), 9);
            EDGES.dueStations(x, 0, NONE);
        }
    }

    private static void stationsMoreThanActs() {
        EDGES.hold(19, "Shares out the best row that was found to so many stations");
        ApartCost x = found(5, 5);
        EDGES.due("stations(4)", x.stations(4), 5);
        EDGES.dueStations(x, 0, 1, NONE);
        ApartCost y = found(1, 5, 2);
        EDGES.due("stations(4): some stand idle", y.stations(4), 5);
        EDGES.dueStations(y, 0, 1, 0, NONE);
    }

    private static void stationsOfFreeActs() {
        EDGES.hold(Edges.TERMS, "the one is told that gives the act of the least number the least station");
        ApartCost x = found(0, 0, 0, 0, 0, 0, 0, 0, 0, 0);
        EDGES.due("stations(4)", x.stations(4), 0);
        EDGES.dueStations(x, 0, 0, 0, 0, 0, 0, 0, 0, 0, 0);
        ApartCost y = found(0, 6, 0, 6, 0);
        EDGES.due("stations(2)", y.stations(2), 6);
        EDGES.dueStations(y, 0, 0, 0, 1, 0);
        y.before(3, 0);
        EDGES.due("stations(2): act 0 is behind act 3", y.stations(2), 6);
        EDGES.dueStations(y, 0, 1, 0, 0, 0);
        y.before(1, 2);
        EDGES.due("stations(2): act 2 is behind act 1", y.stations(2), 6);
        EDGES.dueStations(y, 0, 1, 1, 0, 0);
    }

    private static void stationsOfTenActs() {
        EDGES.hold(Edges.TERMS, "then the next, and so on");
        ApartCost x = found(1, 1, 1, 1, 1, 1, 1, 1, 1, 1);
        EDGES.due("stations(4)", x.stations(4), 3);
        EDGES.dueStations(x, 0, 0, 0, 1, 1, 1, 2, 2, 2, 3, NONE);
        EDGES.due("stations(3)", x.stations(3), 4);
        EDGES.dueStations(x, 0, 0, 0, 0, 1, 1, 1, 1, 2, 2, NONE);
        x.before(9, 0);
        EDGES.due("stations(4): act 0 is behind act 9", x.stations(4), 3);
        EDGES.dueStations(x, 0, 0, 1, 1, 1, 2, 2, 2, 3, 0, NONE);
    }

    private static void stationsOfDearestActs() {
        EDGES.hold(19, "Answers the longest");
        long most = 1000000;
        ApartCost x = found(most, most, most, most, most, most, most, most, most, most);
        EDGES.due("stations(1)", x.stations(1), 10000000);
        EDGES.due("stations(2)", x.stations(2), 5000000);
        EDGES.due("stations(3)", x.stations(3), 4000000);
        EDGES.due("stations(4)", x.stations(4), 3000000);
    }

    private static void stationsOfAChain() {
        EDGES.hold(Edges.TERMS, "no act at an earlier one than an act of the row that it needs");
        ApartCost x = allInTheRow(5, 1, 1, 5);
        x.before(0, 1);
        x.before(1, 2);
        x.before(2, 3);
        EDGES.due("run(5)", x.run(5), 4);
        EDGES.due("stations(2)", x.stations(2), 6);
        EDGES.dueStations(x, 0, 0, 1, 1);
        EDGES.due("stations(3)", x.stations(3), 5);
        EDGES.dueStations(x, 0, 1, 1, 2);
        EDGES.due("stations(4): the fourth stands idle", x.stations(4), 5);
        EDGES.dueStations(x, 0, 1, 1, 2);
    }

    private static void stationsOfAChainBackwards() {
        EDGES.hold(Edges.TERMS, "(it itself, or what it needs, and so on). THE LONGEST");
        ApartCost x = allInTheRow(1, 1, 1, 1, 1, 1, 1, 1, 1, 1);
        for (int act = 0; act < 9; act++) {
            x.before(act + 1, act);
        }
        EDGES.due("run(11)", x.run(11), 10);
        EDGES.due("stations(1)", x.stations(1), 10);
        EDGES.due("stations(4)", x.stations(4), 3);
        EDGES.dueStations(x, 3, 2, 2, 2, 1, 1, 1, 0, 0, 0);
    }

    private static void stationsOfTheRowAlone() {
        EDGES.hold(Edges.TERMS, "each act of the best row is done at one");
        ApartCost x = new ApartCost();
        x.act(0, 0, 0, 1000000);
        x.act(1, 0, 0, 5);
        x.act(2, 0, 0, 1000000);
        x.act(3, 0, 0, 6);
        x.worth(1, 50);
        x.worth(3, 50);
        EDGES.due("run(33)", x.run(33), 2);
        EDGES.due("stations(1)", x.stations(1), 11);
        EDGES.dueStations(x, NONE, 0, NONE, 0, NONE);
        EDGES.due("stations(2)", x.stations(2), 6);
        EDGES.dueStations(x, NONE, 0, NONE, 1, NONE);
    }

    private static void stationsAsThingsAre() {
        EDGES.hold(19, "by what acts cost and need as things are");
        ApartCost x = found(4, 5, 6);
        EDGES.due("stations(2)", x.stations(2), 9);
        EDGES.dueStations(x, 0, 0, 1);
        EDGES.due("before(2, 0) behind run()", x.before(2, 0), true);
        EDGES.due("stations(2)", x.stations(2), 9);
        EDGES.dueStations(x, 1, 1, 0);
        EDGES.due("before(0, 2), refused", x.before(0, 2), false);
        EDGES.due("stations(2)", x.stations(2), 9);
        EDGES.dueStations(x, 1, 1, 0);
        EDGES.due("before(1, 2) behind run()", x.before(1, 2), true);
        EDGES.due("stations(2): 1, 2, 0 in line", x.stations(2), 10);
        EDGES.dueStations(x, 1, 0, 1);
    }

    private static void stationsOfTheRowThatWasFound() {
        EDGES.hold(19, "Shares out the best row that was found");
        ApartCost x = found(4, 5);
        x.worth(0, -1000);
        EDGES.due("act behind run()", x.act(2, 0, 0, 900), 2);
        x.worth(2, 1000000);
        EDGES.due("before(2, 0): an act that is not in the row", x.before(2, 0), true);
        EDGES.due("before(1, 2): what it needs is in the row", x.before(1, 2), true);
        EDGES.due("stations(1)", x.stations(1), 9);
        EDGES.dueStations(x, 0, 0, NONE);
        EDGES.due("stations(2): act 0 is behind act 1, through act 2", x.stations(2), 5);
        EDGES.dueStations(x, 1, 0, NONE);
        EDGES.due("run(4), with all three in line", x.run(4), 2);
        EDGES.dueRow(x, 1, 2);
        EDGES.due("stations(2) of the next row", x.stations(2), 900);
        EDGES.dueStations(x, NONE, 0, 1);
    }

    private static void stationsCountActsAlone() {
        EDGES.hold(Edges.TERMS, "THE LONGEST is the greatest sum of cents of the acts of a station");
        ApartCost x = new ApartCost();
        x.act(0, 0, 0, 5);
        x.act(1, 1, 1, 7);
        x.worth(0, 1000);
        x.worth(1, 1000);
        x.change(0, 1, 40);
        x.change(1, 0, 40);
        x.turn(0, 1, 40);
        x.turn(1, 0, 40);
        EDGES.due("run(5)", x.run(5), 2);
        EDGES.due("stations(1): no change, no turn", x.stations(1), 12);
        EDGES.due("stations(2)", x.stations(2), 7);
    }

    private static void stationsLongestComesFirst() {
        EDGES.hold(Edges.TERMS, "it is to be least; of all ways to share out with the least");
        ApartCost x = found(1, 9, 2, 8);
        EDGES.due("stations(2)", x.stations(2), 10);
        EDGES.dueStations(x, 0, 0, 1, 1);
        EDGES.due("stations(3)", x.stations(3), 9);
        EDGES.dueStations(x, 0, 1, 0, 2);
        // with act 0 at the first one, the longest would be 9
        ApartCost y = found(3, 2, 4);
        y.before(1, 0);
        y.before(2, 1);
        EDGES.due("stations(2): the least is not to be had with act 0 at the first", y.stations(2), 5);
        EDGES.dueStations(y, 1, 1, 0);
    }

    // Promise 20

    private static void stationBeforeStations() {
        EDGES.hold(20, "NONE when it had none, or there was none");
        ApartCost none = new ApartCost();
        ApartCost x = found(3, 4);
        for (int act = -1; act <= 10; act++) {
            EDGES.due("station(" + act + ") of a new object", none.station(act), NONE);
            EDGES.due("station(" + act + ") behind run()", x.station(act), NONE);
        }
    }

    private static void stationBehindRefused() {
        EDGES.hold(20, "by the latest stations() that was not NONE");
        ApartCost x = found(3, 4);
        EDGES.due("stations(5)", x.stations(5), NONE);
        EDGES.dueStations(x, NONE, NONE, NONE);
        EDGES.due("stations(2)", x.stations(2), 4);
        for (int n : NO_NUMBERS) {
            EDGES.due("stations(" + n + ")", x.stations(n), NONE);
            EDGES.dueStations(x, 0, 1, NONE);
        }
    }

    private static void stationOfActsNotInTheRow() {
        EDGES.hold(20, "NONE when it had none");
        ApartCost x = new ApartCost();
        for (int act = 0; act < 10; act++) {
            x.act(act, 0, 0, 5);
        }
        x.worth(0, 50);
        x.worth(9, 50);
        EDGES.due("run(5121)", x.run(5121), 2);
        EDGES.due("stations(4)", x.stations(4), 5);
        EDGES.dueStations(x, 0, NONE, NONE, NONE, NONE, NONE, NONE, NONE, NONE, 1);
    }

    private static void stationWrongAct() {
        EDGES.hold(20, "NONE when it had none");
        ApartCost x = found(1, 1, 1, 1, 1, 1, 1, 1, 1, 1);
        EDGES.due("stations(1)", x.stations(1), 10);
        for (int act : new int[] {-1, 10, 11, -10, 32, 4095, Integer.MIN_VALUE, Integer.MAX_VALUE}) {
            EDGES.due("station(" + act + ")", x.station(act), NONE);
        }
        EDGES.due("station(0)", x.station(0), 0);
        EDGES.due("station(9)", x.station(9), 0);
    }

    private static void stationByTheLatest() {
        EDGES.hold(20, "The station, from 0 on, of an act by the latest stations()");
        ApartCost x = found(2, 2, 2, 2);
        EDGES.due("stations(4)", x.stations(4), 2);
        EDGES.dueStations(x, 0, 1, 2, 3);
        EDGES.due("stations(1)", x.stations(1), 8);
        EDGES.dueStations(x, 0, 0, 0, 0);
        EDGES.due("stations(2)", x.stations(2), 4);
        EDGES.dueStations(x, 0, 0, 1, 1);
    }

    private static void stationBehindRun() {
        EDGES.hold(20, "by the latest stations() that was not NONE");
        ApartCost x = found(3, 4);
        EDGES.due("stations(2)", x.stations(2), 4);
        x.worth(0, 0);
        x.rest(4092, 0);
        x.worth(1, 9);
        EDGES.due("run(4), refused", x.run(4), NONE);
        EDGES.dueStations(x, 0, 1, NONE);
        EDGES.due("run(5): another row", x.run(5), 1);
        EDGES.dueRow(x, 1);
        EDGES.dueStations(x, 0, 1, NONE);
        EDGES.due("stations(2) of the other row", x.stations(2), 4);
        EDGES.dueStations(x, NONE, 0, NONE);
    }

    private static void stationBehindTelling() {
        EDGES.hold(20, "by the latest stations() that was not NONE");
        ApartCost x = found(3, 4);
        EDGES.due("stations(2)", x.stations(2), 4);
        EDGES.due("before(1, 0)", x.before(1, 0), true);
        EDGES.dueStations(x, 0, 1, NONE);
        EDGES.due("act", x.act(2, 0, 0, 1), 2);
        EDGES.due("breaks(0)", x.breaks(0), true);
        EDGES.dueStations(x, 0, 1, NONE);
        EDGES.due("stations(2)", x.stations(2), 4);
        EDGES.dueStations(x, 1, 0, NONE);
    }
}
