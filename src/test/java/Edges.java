/** The boundary cases of a test: each names its promise, and the words that it holds the class to. */
final class Edges {
    /** Stands for the document's Terms where a promise's number is asked for. */
    static final int TERMS = 0;
    /** Stands for what the document says first, under "What it is". */
    static final int FIRST_WORDS = -1;
    static final long CENT = 27720L;
    /** As an int, each of these is 0: a long that is cut down wraps around to a right number. */
    static final long[] WRAPS_TO_ZERO = {1L << 32, -1L << 32, 1L << 40, Long.MIN_VALUE};

    private final Check check = new Check();
    private final Document document = new Document();
    private String name = "";

    /** From here on the answers are held to these words. */
    void hold(int promise, String words) {
        name = Document.nameOf(promise) + ", \"" + words + "\": ";
        check.due(name + "the document has these words", document.has(promise, words), true);
    }

    void due(String call, long got, long want) {
        check.due(name + call, got, want);
    }

    void due(String call, boolean got, boolean want) {
        check.due(name + call, got, want);
    }

    void due(String call, String got, String want) {
        check.due(name + call + ": " + got + " against " + want, got.equals(want), true);
    }

    /** The row that was found, by step(), and NONE behind its end. */
    void dueRow(ApartCost x, int... row) {
        for (int k = 0; k < row.length; k++) {
            due("step(" + k + ")", x.step(k), row[k]);
        }
        due("step(" + row.length + ")", x.step(row.length), ApartCost.NONE);
    }

    /** The stations of acts 0, 1, 2 and so on. */
    void dueStations(ApartCost x, int... stations) {
        for (int act = 0; act < stations.length; act++) {
            due("station(" + act + ")", x.station(act), stations[act]);
        }
    }

    void end() {
        check.end();
    }
}
