/** Counts and prints the answers of one test that are not as due. */
final class Check {
    private int wrong;
    private int asked;

    void due(String call, long got, long want) {
        asked++;
        if (got != want) {
            wrong++;
            System.out.println(call + " answered " + got + ", due is " + want);
        }
    }

    void due(String call, boolean got, boolean want) {
        due(call, got ? 1L : 0L, want ? 1L : 0L);
    }

    /** The row that was found, by step(), and NONE behind its end. */
    void dueRow(String name, ApartCost x, int... row) {
        for (int k = 0; k < row.length; k++) {
            due(name + ": step(" + k + ")", x.step(k), row[k]);
        }
        due(name + ": step behind the end", x.step(row.length), ApartCost.NONE);
    }

    /** The stations of acts 0, 1, 2 and so on. */
    void dueStations(String name, ApartCost x, int... stations) {
        for (int act = 0; act < stations.length; act++) {
            due(name + ": station(" + act + ")", x.station(act), stations[act]);
        }
    }

    int asked() {
        return asked;
    }

    boolean allRight() {
        return wrong == 0;
    }

    void end() {
        System.out.println(asked + " answers, " + wrong + " not as due");
        if (wrong != 0) {
            System.exit(1);
        }
    }
}
