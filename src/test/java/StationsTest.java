/** Promises 19 and 20: how the acts of the row are shared out to stations in line. */
public final class StationsTest {
    private static final Check CHECK = new Check();

    public static void main(String[] args) {
        wrongNumbers();
        emptyRow();
        leastStationsFirst();
        behindWhatTheyNeed();
        needsThroughOthers();
        onlyActsOfTheRow();
        staysUntilTheNext();
        dearActs();
        CHECK.end();
    }

    /** Acts that all pay, each with its own part. */
    private static ApartCost paying(long... cents) {
        ApartCost x = new ApartCost();
        for (int act = 0; act < cents.length; act++) {
            x.act(act, 0, 0, cents[act]);
        }
        x.rest(4095 & -1 << cents.length, 1000000);
        return x;
    }

    private static void wrongNumbers() {
        ApartCost x = paying(3, 4);
        CHECK.due("stations: no row", x.stations(2), -1);
        CHECK.due("stations: a refused run", x.run(1), -1);
        CHECK.due("stations: no row yet", x.stations(2), -1);
        CHECK.due("stations: run", x.run(99), 2);
        CHECK.due("station: not shared out", x.station(0), -1);
        for (int n : new int[] {0, 5, -1, Integer.MAX_VALUE, Integer.MIN_VALUE}) {
            CHECK.due("stations(" + n + ")", x.stations(n), -1);
        }
        CHECK.due("station: still not", x.station(0), -1);
        CHECK.due("stations(1)", x.stations(1), 7);
        CHECK.due("stations(4)", x.stations(4), 4);
        CHECK.dueStations("stations(4)", x, 0, 1, -1, -1, -1, -1, -1, -1, -1, -1, -1, -1);
        CHECK.due("station(-1)", x.station(-1), -1);
        CHECK.due("station(least)", x.station(Integer.MIN_VALUE), -1);
        CHECK.due("station(most)", x.station(Integer.MAX_VALUE), -1);
    }

    private static void emptyRow() {
        ApartCost x = new ApartCost();
        x.act(0, 0, 0, 5);
        CHECK.due("empty: run", x.run(9), 0);
        CHECK.due("empty: stations(3)", x.stations(3), 0);
        CHECK.due("empty: station(0)", x.station(0), -1);
        ApartCost free = paying(0, 0, 0);
        free.run(99);
        CHECK.due("free: stations(4)", free.stations(4), 0);
        CHECK.dueStations("free", free, 0, 0, 0, -1);
    }

    private static void leastStationsFirst() {
        ApartCost x = paying(5, 5, 5, 5);
        x.run(99);
        CHECK.due("least: stations(2)", x.stations(2), 10);
        CHECK.dueStations("least: 2", x, 0, 0, 1, 1);
        CHECK.due("least: stations(3)", x.stations(3), 10);
        CHECK.dueStations("least: 3", x, 0, 0, 1, 1);
        CHECK.due("least: stations(4)", x.stations(4), 5);
        CHECK.dueStations("least: 4", x, 0, 1, 2, 3);
        ApartCost y = paying(1, 9, 2, 8);
        y.run(99);
        CHECK.due("least: pairs", y.stations(2), 10);
        CHECK.dueStations("least: pairs", y, 0, 0, 1, 1);
        CHECK.due("least: dearest", y.stations(3), 9);
        CHECK.dueStations("least: dearest", y, 0, 1, 0, 2);
    }

    private static void behindWhatTheyNeed() {
        ApartCost x = paying(6, 1, 5);
        x.before(2, 0);
        x.run(99);
        CHECK.due("needs: stations(2)", x.stations(2), 6);
        CHECK.dueStations("needs: the lesser number behind", x, 1, 0, 0);
        x.before(0, 1);
        CHECK.due("needs: as things are", x.stations(2), 7);
        CHECK.dueStations("needs: a chain", x, 1, 1, 0);
        CHECK.due("needs: stations(3)", x.stations(3), 6);
        CHECK.dueStations("needs: three", x, 1, 2, 0);
    }

    private static void needsThroughOthers() {
        ApartCost x = new ApartCost();
        x.act(0, 0, 0, 4);
        x.act(1, 0, 0, 5);
        x.act(2, 0, 0, 6);
        x.worth(0, 100);
        x.worth(1, 100);
        CHECK.due("through: run", x.run(99), 2);
        CHECK.due("through: stations(2)", x.stations(2), 5);
        CHECK.dueStations("through: free", x, 0, 1, -1);
        x.before(1, 2);
        x.before(2, 0);
        CHECK.due("through: 0 needs 1 by 2, which is not in the row", x.stations(2), 5);
        CHECK.dueStations("through: by one that is not in the row", x, 1, 0, -1);
    }

    private static void onlyActsOfTheRow() {
        ApartCost x = new ApartCost();
        x.act(0, 0, 0, 900);
        x.act(1, 0, 0, 5);
        x.act(2, 0, 0, 900);
        x.act(3, 1, 1, 7);
        x.change(0, 1, 50);
        x.turn(0, 1, 50);
        x.worth(1, 1000);
        x.worth(3, 1000);
        x.before(1, 3);
        CHECK.due("only: run", x.run(99), 2);
        CHECK.due("only: what acts cost, no changes, no turns", x.stations(1), 12);
        CHECK.dueStations("only: 1", x, -1, 0, -1, 0);
        CHECK.due("only: stations(2)", x.stations(2), 7);
        CHECK.dueStations("only: 2", x, -1, 0, -1, 1);
    }

    private static void staysUntilTheNext() {
        ApartCost x = paying(3, 4);
        x.run(99);
        x.stations(2);
        CHECK.due("stays: refused", x.stations(5), -1);
        CHECK.dueStations("stays: refused", x, 0, 1, -1);
        x.before(1, 0);
        x.act(2, 0, 0, 1);
        CHECK.dueStations("stays: told", x, 0, 1, -1);
        x.rest(4095, 1000000);
        x.rest(4092, 0);
        CHECK.due("stays: another row", x.run(99), 0);
        CHECK.dueStations("stays: by the latest stations()", x, 0, 1, -1);
        CHECK.due("stays: the row of none", x.stations(1), 0);
        CHECK.dueStations("stays: the next", x, -1, -1, -1);
    }

    private static void dearActs() {
        ApartCost x = new ApartCost();
        for (int act = 0; act < 10; act++) {
            x.act(act, 0, 0, 1000000);
            x.worth(act, 1000000);
        }
        x.rest(4095 - 1023, 1);
        CHECK.due("dear: run", x.run(5121), 10);
        CHECK.due("dear: stations(1)", x.stations(1), 10000000);
        CHECK.due("dear: stations(4)", x.stations(4), 3000000);
        CHECK.dueStations("dear", x, 0, 0, 0, 1, 1, 1, 2, 2, 2, 3);
        CHECK.due("dear: the row still", x.step(9), 9);
        CHECK.due("dear: no others", x.other(0), -1);
        CHECK.due("dear: act 10", x.station(10), -1);
        CHECK.due("dear: bound", x.bound(), 10000001L * 27720);
    }
}
