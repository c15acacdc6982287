/** The document on from the Terms: each sentence of promises 1 to 20, in its order. */
public final class PromisesSentencesTest {
    private static final Edges EDGES = new Edges();
    private static final Sentences SENTENCES = new Sentences(EDGES);
    private static final int NONE = ApartCost.NONE;
    private static final long CENT = Edges.CENT;

    public static void main(String[] args) {
        aNewObject();
        oneMoreAct();
        actAnswers();
        actNeedsAct();
        beforeAnswers();
        changingCosts();
        changeAnswers();
        turningCosts();
        turnAnswers();
        worthOfAPart();
        worthAnswers();
        worthOfARest();
        restAnswers();
        actBreaks();
        breaksAnswers();
        chanceBecomes();
        sureAnswers();
        howManyStates();
        findsTheBestRow();
        runAnswers();
        stepsOfTheRow();
        partsNotFree();
        actsNotInTheRow();
        whatAPartBrought();
        isProved();
        noRowGainsMore();
        whetherTestingPays();
        sharesOut();
        stationsAnswers();
        stationOfAnAct();
        SENTENCES.end();
    }

    /** Act 0 frees part 0, act 1 part 1, and so on, all with tool 0 from side 0. */
    private static ApartCost withActs(long... cents) {
        ApartCost x = new ApartCost();
        for (int act = 0; act < cents.length; act++) {
            x.act(act, 0, 0, cents[act]);
        }
        return x;
    }

    private static void dueGain(ApartCost x, String name, int acts, long cents) {
        EDGES.due("run, " + name, x.run(5121), acts);
        EDGES.due("gain(NONE), " + name, x.gain(NONE), cents * CENT);
    }

    private static void aNewObject() {
        SENTENCES.section(1, "A new object `ApartCost()`:");
        SENTENCES.hold("No acts; all parts sure, worth 0; nothing was found.");
        ApartCost x = new ApartCost();
        EDGES.due("states(): no acts", x.states(), 1);
        EDGES.due("bound(): worth 0", x.bound(), 0);
        EDGES.due("step(0)", x.step(0), NONE);
        EDGES.due("stops(0)", x.stops(0), NONE);
        EDGES.due("other(0)", x.other(0), NONE);
        EDGES.due("gain(NONE)", x.gain(NONE), 0);
        EDGES.due("proved()", x.proved(), false);
        EDGES.due("stations(1)", x.stations(1), NONE);
        EDGES.due("station(0)", x.station(0), NONE);
        for (int part = 0; part < 12; part++) {
            x.worth(part, 100);
            EDGES.due("bound(): sure", x.bound(), (part + 1) * 100 * CENT);
            EDGES.due("test(" + part + ", 0): sure", x.test(part, 0), 0);
        }
        EDGES.due("the first act", x.act(0, 0, 0, 10), 0);
        dueGain(x, "no change, no turn, no rest, whole", 1, 90);
    }

    private static void oneMoreAct() {
        SENTENCES.section(2, "act `int act(int frees, int tool, int side, long cents)`:");
        SENTENCES.hold("One more act.");
        ApartCost x = new ApartCost();
        x.worth(7, 50);
        dueGain(x, "no act", 0, 0);
        x.act(7, 2, 3, 20);
        EDGES.due("states()", x.states(), 2);
        dueGain(x, "one act", 1, 30);
        EDGES.due("gain(7)", x.gain(7), 50 * CENT);
        x.act(8, 4, 5, 10);
        x.worth(8, 40);
        x.change(2, 4, 3);
        x.change(4, 2, 6);
        x.turn(3, 5, 7);
        x.turn(5, 3, 5);
        EDGES.due("states()", x.states(), 5);
        dueGain(x, "two acts: 3 and 7 to act 1, 6 and 5 to act 0", 2, 50 + 40 - 20 - 10 - 10);
        EDGES.dueRow(x, 0, 1);
    }

    private static void actAnswers() {
        SENTENCES.hold("Answers its number; NONE when there are 10, or the part (NONE .. 11), tool or side is not such,"
            + " or cents are not 0 .. 1000000.");
        ApartCost x = new ApartCost();
        EDGES.due("act(5, 1, 2, 300)", x.act(5, 1, 2, 300), 0);
        EDGES.due("act(NONE, 1, 2, 300)", x.act(NONE, 1, 2, 300), 1);
        EDGES.due("part 20", x.act(20, 1, 2, 300), NONE);
        EDGES.due("part -5", x.act(-5, 1, 2, 300), NONE);
        EDGES.due("tool 9", x.act(5, 9, 2, 300), NONE);
        EDGES.due("tool -3", x.act(5, -3, 2, 300), NONE);
        EDGES.due("side 9", x.act(5, 1, 9, 300), NONE);
        EDGES.due("side -3", x.act(5, 1, -3, 300), NONE);
        EDGES.due("cents -300", x.act(5, 1, 2, -300), NONE);
        EDGES.due("cents 3000000", x.act(5, 1, 2, 3000000), NONE);
        for (int number = 2; number < 10; number++) {
            EDGES.due("act", x.act(number, number % 6, 0, 1), number);
        }
        EDGES.due("there are 10", x.act(5, 1, 2, 300), NONE);
    }

    private static void actNeedsAct() {
        SENTENCES.section(3, "before `boolean before(int a, int b)`:");
        SENTENCES.hold("Act b needs act a.");
        ApartCost x = withActs(10, 20, 30);
        x.worth(0, 100);
        dueGain(x, "act 0 alone", 1, 90);
        x.before(2, 0);
        dueGain(x, "act 0 behind act 2", 2, 60);
        EDGES.dueRow(x, 2, 0);
        x.before(1, 0);
        dueGain(x, "act 0 behind acts 1 and 2", 3, 40);
        EDGES.dueRow(x, 1, 2, 0);
        x.before(2, 1);
        dueGain(x, "in line", 3, 40);
        EDGES.dueRow(x, 2, 1, 0);
    }

    private static void beforeAnswers() {
        SENTENCES.hold("Answers true; false when there are none such, a is b,"
            + " or a needs b (it itself, or what it needs, and so on).");
        ApartCost x = withActs(1, 1, 1, 1);
        EDGES.due("before(0, 1)", x.before(0, 1), true);
        EDGES.due("before(1, 2)", x.before(1, 2), true);
        EDGES.due("before(2, 3)", x.before(2, 3), true);
        EDGES.due("before(0, 7)", x.before(0, 7), false);
        EDGES.due("before(7, 0)", x.before(7, 0), false);
        EDGES.due("before(-3, 0)", x.before(-3, 0), false);
        EDGES.due("before(1, 1)", x.before(1, 1), false);
        EDGES.due("before(1, 0): 1 needs 0", x.before(1, 0), false);
        EDGES.due("before(2, 0): 2 needs 1, that needs 0", x.before(2, 0), false);
        EDGES.due("before(3, 0): and so on", x.before(3, 0), false);
        EDGES.due("before(0, 3): 3 needs 0", x.before(0, 3), true);
    }

    private static ApartCost ofKinds(int toolA, int toolB, int sideA, int sideB) {
        ApartCost x = new ApartCost();
        x.act(0, toolA, sideA, 10);
        x.act(1, toolB, sideB, 10);
        x.before(0, 1);
        x.worth(1, 1000);
        return x;
    }

    private static void changingCosts() {
        SENTENCES.section(4, "change `boolean change(int toolA, int toolB, long cents)`:");
        SENTENCES.hold("Changing from one tool to another one costs, 0 .. 1000000.");
        ApartCost x = ofKinds(3, 1, 0, 0);
        dueGain(x, "not told", 2, 980);
        x.change(3, 1, 60);
        dueGain(x, "from 3 to 1", 2, 920);
        x.change(1, 3, 70);
        x.change(3, 2, 80);
        dueGain(x, "others are not made", 2, 920);
        x.change(3, 1, 0);
        dueGain(x, "told anew", 2, 980);
        x.change(3, 1, 1000000);
        dueGain(x, "too dear", 0, 0);
    }

    private static void changeAnswers() {
        SENTENCES.hold("Answers true; false when there are none such, both are the same, or cents are not such.");
        ApartCost x = new ApartCost();
        EDGES.due("change(2, 4, 500)", x.change(2, 4, 500), true);
        EDGES.due("change(2, 4, 0)", x.change(2, 4, 0), true);
        EDGES.due("change(4, 2, 1000000)", x.change(4, 2, 1000000), true);
        EDGES.due("change(2, 8, 500)", x.change(2, 8, 500), false);
        EDGES.due("change(-2, 4, 500)", x.change(-2, 4, 500), false);
        EDGES.due("change(4, 4, 500)", x.change(4, 4, 500), false);
        EDGES.due("change(2, 4, -500)", x.change(2, 4, -500), false);
        EDGES.due("change(2, 4, 5000000)", x.change(2, 4, 5000000), false);
    }

    private static void turningCosts() {
        SENTENCES.section(5, "turn `boolean turn(int sideA, int sideB, long cents)`:");
        SENTENCES.hold("Turning from one side to another one costs, 0 .. 1000000.");
        ApartCost x = ofKinds(0, 0, 3, 1);
        dueGain(x, "not told", 2, 980);
        x.turn(3, 1, 60);
        dueGain(x, "from 3 to 1", 2, 920);
        x.turn(1, 3, 70);
        x.turn(3, 2, 80);
        x.change(3, 1, 90);
        dueGain(x, "others are not made", 2, 920);
        x.turn(3, 1, 0);
        dueGain(x, "told anew", 2, 980);
        x.turn(3, 1, 1000000);
        dueGain(x, "too dear", 0, 0);
    }

    private static void turnAnswers() {
        SENTENCES.hold("Answers true; false likewise.");
        ApartCost x = new ApartCost();
        EDGES.due("turn(2, 4, 500)", x.turn(2, 4, 500), true);
        EDGES.due("turn(2, 4, 0)", x.turn(2, 4, 0), true);
        EDGES.due("turn(4, 2, 1000000)", x.turn(4, 2, 1000000), true);
        EDGES.due("turn(2, 8, 500)", x.turn(2, 8, 500), false);
        EDGES.due("turn(-2, 4, 500)", x.turn(-2, 4, 500), false);
        EDGES.due("turn(4, 4, 500)", x.turn(4, 4, 500), false);
        EDGES.due("turn(2, 4, -500)", x.turn(2, 4, -500), false);
        EDGES.due("turn(2, 4, 5000000)", x.turn(2, 4, 5000000), false);
    }

    private static void worthOfAPart() {
        SENTENCES.section(6, "worth `boolean worth(int part, long cents)`:");
        SENTENCES.hold("A part's worth, -1000000 .. 1000000.");
        ApartCost x = withActs(10, 10);
        x.before(0, 1);
        x.worth(1, 1000000);
        dueGain(x, "part 1", 2, 999980);
        x.worth(0, 300);
        dueGain(x, "both parts", 2, 1000280);
        EDGES.due("gain(0)", x.gain(0), 300 * CENT);
        x.worth(0, -300);
        dueGain(x, "told anew, below 0", 2, 999680);
        EDGES.due("gain(0)", x.gain(0), -300 * CENT);
        x.worth(0, -1000000);
        dueGain(x, "nothing pays", 0, 0);
    }

    private static void worthAnswers() {
        SENTENCES.hold("Answers true; false when it is not such.");
        ApartCost x = new ApartCost();
        EDGES.due("worth(6, 500)", x.worth(6, 500), true);
        EDGES.due("worth(6, -500)", x.worth(6, -500), true);
        EDGES.due("worth(6, 5000000)", x.worth(6, 5000000), false);
        EDGES.due("worth(6, -5000000)", x.worth(6, -5000000), false);
        EDGES.due("worth(20, 500)", x.worth(20, 500), false);
        EDGES.due("worth(-5, 500)", x.worth(-5, 500), false);
    }

    private static void worthOfARest() {
        SENTENCES.section(7, "rest `boolean rest(long bits, long cents)`:");
        SENTENCES.hold("The worth of a rest, -1000000 .. 1000000.");
        ApartCost x = withActs(10, 10);
        x.rest(4095 - 1, 50);
        dueGain(x, "all but part 0", 1, 40);
        EDGES.dueRow(x, 0);
        x.rest(4095 - 2, 70);
        dueGain(x, "all but part 1", 1, 60);
        EDGES.dueRow(x, 1);
        x.rest(4095 - 2, 30);
        dueGain(x, "told anew", 1, 40);
        EDGES.dueRow(x, 0);
        x.rest(4095, -1000000);
        x.rest(4095 - 1, -1000000);
        x.rest(4095 - 2, -500);
        x.rest(4095 - 3, -400);
        dueGain(x, "all below 0", 2, -420);
    }

    private static void restAnswers() {
        SENTENCES.hold("Answers true; false when it is not such, bits are not 0 .. 4095,"
            + " or 16 other rests were told.");
        ApartCost x = new ApartCost();
        EDGES.due("rest(100, 5000000)", x.rest(100, 5000000), false);
        EDGES.due("rest(100, -5000000)", x.rest(100, -5000000), false);
        EDGES.due("rest(9000, 5)", x.rest(9000, 5), false);
        EDGES.due("rest(-100, 5)", x.rest(-100, 5), false);
        for (int k = 0; k < 16; k++) {
            EDGES.due("rest(" + 100 * k + ", 5)", x.rest(100 * k, 5), true);
        }
        EDGES.due("rest(3000, 5): 16 others", x.rest(3000, 5), false);
        EDGES.due("rest(700, 8): 15 others", x.rest(700, 8), true);
    }

    private static void actBreaks() {
        SENTENCES.section(8, "breaks `boolean breaks(int act)`:");
        SENTENCES.hold("An act breaks what it frees.");
        ApartCost x = withActs(10, 10);
        x.before(0, 1);
        x.worth(0, 60);
        x.worth(1, 70);
        dueGain(x, "both whole", 2, 110);
        x.breaks(0);
        dueGain(x, "part 0 broken", 2, 50);
        EDGES.due("gain(0)", x.gain(0), 0);
        EDGES.due("gain(1)", x.gain(1), 70 * CENT);
        EDGES.due("stops(0): it is free", x.stops(0), 2);
        x.breaks(1);
        dueGain(x, "both broken", 0, 0);
    }

    private static void breaksAnswers() {
        SENTENCES.hold("Answers true; false when there is none such, or it does already.");
        ApartCost x = withActs(10, 10);
        EDGES.due("breaks(1)", x.breaks(1), true);
        EDGES.due("breaks(1) again", x.breaks(1), false);
        EDGES.due("breaks(5)", x.breaks(5), false);
        EDGES.due("breaks(-5)", x.breaks(-5), false);
        EDGES.due("breaks(0)", x.breaks(0), true);
    }

    private static void chanceBecomes() {
        SENTENCES.section(9, "sure `boolean sure(int part, long above, long below)`:");
        SENTENCES.hold("A part's chance becomes above / below.");
        ApartCost x = withActs(10);
        x.worth(0, 120);
        dueGain(x, "sure", 1, 110);
        x.sure(0, 3, 4);
        dueGain(x, "three quarters", 1, 80);
        x.sure(0, 1, 3);
        dueGain(x, "a third, not of three quarters", 1, 30);
        x.sure(0, 0, 7);
        dueGain(x, "none", 0, 0);
        x.sure(0, 7, 7);
        dueGain(x, "sure again", 1, 110);
        x.sure(1, 1, 2);
        dueGain(x, "of another part", 1, 110);
    }

    private static void sureAnswers() {
        SENTENCES.hold("Answers true; false when there is none such, below is not 1 .. 12, or above not 0 .. below.");
        ApartCost x = new ApartCost();
        EDGES.due("sure(6, 2, 5)", x.sure(6, 2, 5), true);
        EDGES.due("sure(6, 0, 1)", x.sure(6, 0, 1), true);
        EDGES.due("sure(6, 12, 12)", x.sure(6, 12, 12), true);
        EDGES.due("sure(20, 2, 5)", x.sure(20, 2, 5), false);
        EDGES.due("sure(-5, 2, 5)", x.sure(-5, 2, 5), false);
        EDGES.due("sure(6, 2, 50)", x.sure(6, 2, 50), false);
        EDGES.due("sure(6, 0, 0)", x.sure(6, 0, 0), false);
        EDGES.due("sure(6, -2, -5)", x.sure(6, -2, -5), false);
        EDGES.due("sure(6, 5, 2)", x.sure(6, 5, 2), false);
        EDGES.due("sure(6, -2, 5)", x.sure(6, -2, 5), false);
    }

    private static void howManyStates() {
        SENTENCES.section(10, "states `long states()`:");
        SENTENCES.hold("How many states there are.");
        ApartCost x = withActs(1, 1, 1, 1);
        // by sets of one, two, three and four: 4 with one last, 6 with two, 4 with three, 1 with four
        EDGES.due("states() of four", x.states(), 1 + 4 + 12 + 12 + 4);
        x.before(0, 1);
        x.before(2, 3);
        // two lines of two: 0, 2, 0 1, 2 3 with one last; 0 2, 0 1 2, 0 2 3 and all four with two
        EDGES.due("states() of two lines", x.states(), 1 + 4 + 8);
        x.worth(0, 9);
        x.breaks(0);
        x.run(13);
        EDGES.due("states() as before", x.states(), 13);
    }

    private static void findsTheBestRow() {
        SENTENCES.section(11, "run `int run(long nodes)`:");
        SENTENCES.hold("Finds the best row, if there are no more states than nodes.");
        ApartCost x = withActs(10, 20, 30);
        x.worth(1, 100);
        x.worth(2, 100);
        EDGES.due("run(13)", x.run(13), 2);
        EDGES.dueRow(x, 1, 2);
        EDGES.due("gain(NONE)", x.gain(NONE), 150 * CENT);
        x.worth(2, 0);
        EDGES.due("run(12): 13 states", x.run(12), NONE);
        EDGES.dueRow(x, 1, 2);
        EDGES.due("run(14)", x.run(14), 1);
        EDGES.dueRow(x, 1);
        EDGES.due("gain(NONE)", x.gain(NONE), 80 * CENT);
    }

    private static void runAnswers() {
        SENTENCES.hold("Answers how many acts it has; NONE when there are more states.");
        ApartCost x = withActs(10, 10, 10);
        EDGES.due("run(100)", x.run(100), 0);
        x.worth(2, 50);
        EDGES.due("run(100)", x.run(100), 1);
        x.worth(0, 50);
        EDGES.due("run(100)", x.run(100), 2);
        x.before(1, 0);
        EDGES.due("run(100)", x.run(100), 3);
        EDGES.due("run(5)", x.run(5), NONE);
        EDGES.due("run(0)", x.run(0), NONE);
        EDGES.due("run(-100)", x.run(-100), NONE);
    }

    /** Acts 0 to 4; the row is 3, 1, and act 4 would break the part that act 1 frees. */
    private static ApartCost ofFive() {
        ApartCost x = new ApartCost();
        x.act(7, 0, 0, 90);
        x.act(9, 1, 0, 10);
        x.act(2, 0, 0, 90);
        x.act(5, 0, 0, 10);
        x.act(9, 1, 0, 10);
        x.before(3, 1);
        x.before(1, 4);
        x.change(0, 1, 4);
        x.breaks(4);
        x.worth(7, 80);
        x.worth(9, 300);
        x.worth(5, 60);
        x.sure(5, 2, 3);
        x.rest(4095 - 512 - 32, 20);
        return x;
    }

    private static void stepsOfTheRow() {
        SENTENCES.section(12, "step `int step(int k)`:");
        SENTENCES.hold("The k-th act of the best row that was found, from 0 on; NONE when there is none such.");
        ApartCost x = ofFive();
        EDGES.due("step(0) before run()", x.step(0), NONE);
        EDGES.due("run(99)", x.run(99), 2);
        EDGES.due("step(0)", x.step(0), 3);
        EDGES.due("step(1)", x.step(1), 1);
        EDGES.due("step(2)", x.step(2), NONE);
        EDGES.due("step(50)", x.step(50), NONE);
        EDGES.due("step(-2)", x.step(-2), NONE);
    }

    private static void partsNotFree() {
        SENTENCES.section(13, "stops `int stops(int k)`:");
        SENTENCES.hold("The k-th part, by numbers, that was not free by it; NONE likewise, and before run().");
        ApartCost x = ofFive();
        EDGES.due("stops(0) before run()", x.stops(0), NONE);
        EDGES.due("run(99)", x.run(99), 2);
        int[] due = {0, 1, 2, 3, 4, 6, 7, 8, 10, 11};
        for (int k = 0; k < due.length; k++) {
            EDGES.due("stops(" + k + ")", x.stops(k), due[k]);
        }
        EDGES.due("stops(10)", x.stops(10), NONE);
        EDGES.due("stops(50)", x.stops(50), NONE);
        EDGES.due("stops(-2)", x.stops(-2), NONE);
    }

    private static void actsNotInTheRow() {
        SENTENCES.section(14, "other `int other(int k)`:");
        SENTENCES.hold("The k-th act, by numbers, that is not in it; NONE likewise.");
        ApartCost x = ofFive();
        EDGES.due("other(0) before run()", x.other(0), NONE);
        EDGES.due("run(99)", x.run(99), 2);
        EDGES.due("other(0)", x.other(0), 0);
        EDGES.due("other(1)", x.other(1), 2);
        EDGES.due("other(2)", x.other(2), 4);
        EDGES.due("other(3)", x.other(3), NONE);
        EDGES.due("other(50)", x.other(50), NONE);
        EDGES.due("other(-2)", x.other(-2), NONE);
    }

    private static void whatAPartBrought() {
        SENTENCES.section(15, "gain `long gain(int part)`:");
        SENTENCES.hold("Of the best row that was found: what a part brought (its worth by its chance, if it was free"
            + " and whole; else 0); of NONE the row's gain; 0 before run() and for others.");
        ApartCost x = ofFive();
        EDGES.due("gain(9) before run()", x.gain(9), 0);
        EDGES.due("gain(NONE) before run()", x.gain(NONE), 0);
        EDGES.due("run(99)", x.run(99), 2);
        EDGES.due("gain(9)", x.gain(9), 300 * CENT);
        EDGES.due("gain(5): by two thirds", x.gain(5), 40 * CENT);
        EDGES.due("gain(7): not free", x.gain(7), 0);
        EDGES.due("gain(NONE): with the rest, less the change", x.gain(NONE), (300 + 40 + 20 - 20 - 4) * CENT);
        EDGES.due("gain(50)", x.gain(50), 0);
        EDGES.due("gain(-2)", x.gain(-2), 0);
        x.breaks(1);
        EDGES.due("gain(9): of the row that was found", x.gain(9), 300 * CENT);
        EDGES.due("run(99): for the sake of the rest", x.run(99), 2);
        EDGES.dueRow(x, 3, 1);
        EDGES.due("gain(9): free, but not whole", x.gain(9), 0);
        EDGES.due("gain(NONE)", x.gain(NONE), (40 + 20 - 20 - 4) * CENT);
    }

    private static void isProved() {
        SENTENCES.section(16, "proved `boolean proved()`:");
        SENTENCES.hold("Whether a row was found, and nothing that was told since was not refused.");
        ApartCost x = ofFive();
        EDGES.due("before run()", x.proved(), false);
        x.run(1);
        EDGES.due("behind run(1), refused", x.proved(), false);
        x.run(99);
        EDGES.due("behind run(99)", x.proved(), true);
        x.worth(30, 5);
        x.before(1, 3);
        EDGES.due("behind what was refused", x.proved(), true);
        x.stations(2);
        x.test(5, 10);
        EDGES.due("behind what tells nothing", x.proved(), true);
        EDGES.due("worth", x.worth(3, 5), true);
        EDGES.due("behind worth", x.proved(), false);
        x.worth(30, 5);
        EDGES.due("and behind what was refused", x.proved(), false);
        dueProvedAgain(x);
        EDGES.due("act", x.act(1, 1, 1, 1), 5);
        dueProvedAgain(x);
        EDGES.due("before", x.before(0, 5), true);
        dueProvedAgain(x);
        EDGES.due("change", x.change(4, 5, 1), true);
        dueProvedAgain(x);
        EDGES.due("turn", x.turn(4, 5, 1), true);
        dueProvedAgain(x);
        EDGES.due("rest", x.rest(1, 1), true);
        dueProvedAgain(x);
        EDGES.due("breaks", x.breaks(0), true);
        dueProvedAgain(x);
        EDGES.due("sure", x.sure(11, 1, 2), true);
        dueProvedAgain(x);
    }

    /** What was told just now was not refused; the next run makes it good. */
    private static void dueProvedAgain(ApartCost x) {
        EDGES.due("behind what was not refused", x.proved(), false);
        EDGES.due("run(99)", x.run(99), 2);
        EDGES.due("behind run(99)", x.proved(), true);
    }

    private static void noRowGainsMore() {
        SENTENCES.section(17, "bound `long bound()`:");
        SENTENCES.hold("What no row gains more than, as things are: all worths above 0, each by its chance,"
            + " and the greatest worth of a rest (0, if none is above).");
        ApartCost x = ofFive();
        EDGES.due("bound()", x.bound(), (80 + 300 + 40 + 20) * CENT);
        x.worth(1, -70);
        EDGES.due("bound() with a worth below 0", x.bound(), (80 + 300 + 40 + 20) * CENT);
        x.rest(3, 25);
        x.rest(4, 15);
        EDGES.due("bound() with other rests", x.bound(), (80 + 300 + 40 + 25) * CENT);
        x.run(99);
        x.worth(9, 0);
        EDGES.due("bound() as things are", x.bound(), (80 + 40 + 25) * CENT);
        x.rest(4095 - 512 - 32, -20);
        x.rest(3, -25);
        x.rest(4, -15);
        EDGES.due("bound(): no rest above 0", x.bound(), (80 + 40) * CENT);
        ApartCost all = withActs(0, 0);
        all.worth(0, 5);
        all.worth(1, 7);
        all.rest(4092, 9);
        EDGES.due("run: all that can be won", all.run(5), 2);
        EDGES.due("gain(NONE)", all.gain(NONE), all.bound());
    }

    private static void whetherTestingPays() {
        SENTENCES.section(18, "test `int test(int part, long cents)`:");
        SENTENCES.hold("Whether it pays to find out at the beginning, for some cents (0 .. 1000000), if a part is worth"
            + " what was told, or nothing: 1 when the chance's share of the best gain if it is, and the other share"
            + " of that if it is not, less these cents, are more than the best gain without; 0 when not;"
            + " NONE when there are none such.");
        ApartCost x = withActs(40, 10);
        x.before(0, 1);
        x.worth(0, 30);
        x.worth(1, 100);
        x.sure(1, 3, 5);
        // without 30 + 60 - 50 = 40; if it is 80, if it is not none at all: three fifths of 80 are 48
        EDGES.due("test(1, 7)", x.test(1, 7), 1);
        EDGES.due("test(1, 8)", x.test(1, 8), 0);
        EDGES.due("test(0, 0): it is sure", x.test(0, 0), 0);
        EDGES.due("test(3, 0): it is never free", x.test(3, 0), 0);
        x.worth(0, 45);
        // without 55; if it is 95, if it is not 5 by act 0 alone: 57 and 2
        EDGES.due("test(1, 3)", x.test(1, 3), 1);
        EDGES.due("test(1, 4)", x.test(1, 4), 0);
        EDGES.due("test(20, 3)", x.test(20, 3), NONE);
        EDGES.due("test(-5, 3)", x.test(-5, 3), NONE);
        EDGES.due("test(1, -3)", x.test(1, -3), NONE);
        EDGES.due("test(1, 3000000)", x.test(1, 3000000), NONE);
        EDGES.due("nothing was found by it", x.stops(0), NONE);
        EDGES.due("nothing was told by it", x.bound(), (45 + 60) * CENT);
    }

    private static void sharesOut() {
        SENTENCES.section(19, "stations `int stations(int n)`:");
        SENTENCES.hold("Shares out the best row that was found to so many stations (1 .. 4),"
            + " by what acts cost and need as things are.");
        ApartCost x = withActs(6, 3, 500, 5);
        x.worth(0, 90);
        x.worth(1, 90);
        x.worth(3, 90);
        EDGES.due("run(33)", x.run(33), 3);
        x.stations(2);
        EDGES.dueStations(x, 0, 1, NONE, 1);
        x.stations(3);
        EDGES.dueStations(x, 0, 1, NONE, 2);
        x.stations(1);
        EDGES.dueStations(x, 0, 0, NONE, 0);
        x.before(3, 1);
        x.before(1, 0);
        x.stations(2);
        EDGES.dueStations(x, 1, 0, NONE, 0);
        x.worth(2, 900);
        x.worth(0, 0);
        x.stations(4);
        EDGES.dueStations(x, 2, 1, NONE, 0);
        EDGES.due("run(33)", x.run(33), 3);
        x.stations(4);
        EDGES.dueStations(x, NONE, 0, 1, 0);
    }

    private static void stationsAnswers() {
        SENTENCES.hold("Answers the longest; NONE when no row was found, or the number is not such.");
        ApartCost x = withActs(6, 3, 500, 5);
        x.worth(0, 90);
        x.worth(1, 90);
        x.worth(3, 90);
        EDGES.due("stations(2) before run()", x.stations(2), NONE);
        EDGES.due("run(33)", x.run(33), 3);
        EDGES.due("stations(1)", x.stations(1), 14);
        EDGES.due("stations(2)", x.stations(2), 8);
        EDGES.due("stations(3)", x.stations(3), 6);
        EDGES.due("stations(4)", x.stations(4), 6);
        EDGES.due("stations(0)", x.stations(0), NONE);
        EDGES.due("stations(-2)", x.stations(-2), NONE);
        EDGES.due("stations(20)", x.stations(20), NONE);
    }

    private static void stationOfAnAct() {
        SENTENCES.section(20, "station `int station(int act)`:");
        SENTENCES.hold("The station, from 0 on, of an act by the latest stations() that was not NONE;"
            + " NONE when it had none, or there was none.");
        ApartCost x = withActs(6, 3, 500, 5);
        x.worth(0, 90);
        x.worth(1, 90);
        x.worth(3, 90);
        x.run(33);
        EDGES.due("station(0): there was no stations()", x.station(0), NONE);
        x.stations(3);
        EDGES.dueStations(x, 0, 1, NONE, 2);
        x.stations(7);
        EDGES.dueStations(x, 0, 1, NONE, 2);
        x.worth(0, 0);
        x.run(33);
        EDGES.dueStations(x, 0, 1, NONE, 2);
        x.stations(3);
        EDGES.dueStations(x, NONE, 0, NONE, 1);
        EDGES.due("station(50)", x.station(50), NONE);
        EDGES.due("station(-2)", x.station(-2), NONE);
    }
}
