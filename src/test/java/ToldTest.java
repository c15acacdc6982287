/** Promises 1 to 9: a new object, and what is told to it. */
public final class ToldTest {
    private static final Check CHECK = new Check();
    private static final long CENT = 27720L;

    public static void main(String[] args) {
        newObject();
        acts();
        befores();
        moves();
        movesHaveADirection();
        worths();
        rests();
        restsCountByTheirSet();
        breaking();
        chances();
        refusedTellsNothing();
        CHECK.end();
    }

    private static void newObject() {
        ApartCost x = new ApartCost();
        CHECK.due("new: states()", x.states(), 1);
        CHECK.due("new: bound()", x.bound(), 0);
        CHECK.due("new: proved()", x.proved(), false);
        for (int k = -2; k <= 13; k++) {
            CHECK.due("new: step(" + k + ")", x.step(k), -1);
            CHECK.due("new: stops(" + k + ")", x.stops(k), -1);
            CHECK.due("new: other(" + k + ")", x.other(k), -1);
            CHECK.due("new: gain(" + k + ")", x.gain(k), 0);
            CHECK.due("new: station(" + k + ")", x.station(k), -1);
            CHECK.due("new: breaks(" + k + ")", x.breaks(k), false);
        }
        CHECK.due("new: stations(1)", x.stations(1), -1);
        CHECK.due("new: test(0, 0)", x.test(0, 0), 0);
        CHECK.due("new: before(0, 1)", x.before(0, 1), false);
        // all parts are sure: what is told as worth counts whole
        for (int part = 0; part < 12; part++) {
            x.worth(part, 1 << part);
        }
        CHECK.due("new: bound() of sure parts", x.bound(), 4095 * CENT);
    }

    private static void acts() {
        ApartCost x = new ApartCost();
        CHECK.due("act: part -2", x.act(-2, 0, 0, 0), -1);
        CHECK.due("act: part 12", x.act(12, 0, 0, 0), -1);
        CHECK.due("act: part least", x.act(Integer.MIN_VALUE, 0, 0, 0), -1);
        CHECK.due("act: tool -1", x.act(0, -1, 0, 0), -1);
        CHECK.due("act: tool 6", x.act(0, 6, 0, 0), -1);
        CHECK.due("act: side -1", x.act(0, 0, -1, 0), -1);
        CHECK.due("act: side 6", x.act(0, 0, 6, 0), -1);
        CHECK.due("act: cents -1", x.act(0, 0, 0, -1), -1);
        CHECK.due("act: cents 1000001", x.act(0, 0, 0, 1000001), -1);
        CHECK.due("act: cents of more than an int", x.act(0, 0, 0, 1L << 32), -1);
        CHECK.due("act: none was added", x.states(), 1);
        CHECK.due("act: frees none", x.act(ApartCost.NONE, 5, 5, 1000000), 0);
        CHECK.due("act: part 11", x.act(11, 0, 0, 0), 1);
        for (int number = 2; number < 10; number++) {
            CHECK.due("act " + number, x.act(0, 0, 0, 1), number);
        }
        CHECK.due("act: an 11th", x.act(0, 0, 0, 1), -1);
        CHECK.due("act: states of ten", x.states(), 5121);
    }

    private static void befores() {
        ApartCost x = new ApartCost();
        for (int act = 0; act < 4; act++) {
            x.act(act, 0, 0, 1);
        }
        CHECK.due("before(-1, 0)", x.before(-1, 0), false);
        CHECK.due("before(0, -1)", x.before(0, -1), false);
        CHECK.due("before(4, 0)", x.before(4, 0), false);
        CHECK.due("before(0, 4)", x.before(0, 4), false);
        CHECK.due("before(2, 2)", x.before(2, 2), false);
        CHECK.due("before(2, 3)", x.before(2, 3), true);
        CHECK.due("before(2, 3) again", x.before(2, 3), true);
        CHECK.due("before(3, 2): 3 needs 2", x.before(3, 2), false);
        CHECK.due("before(0, 1)", x.before(0, 1), true);
        CHECK.due("before(1, 2): joins two chains", x.before(1, 2), true);
        CHECK.due("before(3, 0): 3 needs 0 through two others", x.before(3, 0), false);
        CHECK.due("before(3, 1)", x.before(3, 1), false);
        CHECK.due("before(0, 3): told already, through others", x.before(0, 3), true);
        CHECK.due("before: one chain", x.states(), 5);
        CHECK.due("before: a new act needs none", x.act(4, 0, 0, 1), 4);
        CHECK.due("before: and none needs it", x.before(4, 0), true);
        CHECK.due("before: still one chain", x.states(), 6);
    }

    private static void moves() {
        ApartCost x = new ApartCost();
        for (int wrong = -1; wrong <= 6; wrong += 7) {
            CHECK.due("change from " + wrong, x.change(wrong, 0, 1), false);
            CHECK.due("change to " + wrong, x.change(0, wrong, 1), false);
            CHECK.due("turn from " + wrong, x.turn(wrong, 0, 1), false);
            CHECK.due("turn to " + wrong, x.turn(0, wrong, 1), false);
        }
        for (int same = 0; same < 6; same++) {
            CHECK.due("change(same)", x.change(same, same, 0), false);
            CHECK.due("turn(same)", x.turn(same, same, 0), false);
        }
        for (long cents : new long[] {-1, 1000001, Long.MAX_VALUE, Long.MIN_VALUE, 1L << 32}) {
            CHECK.due("change for " + cents, x.change(0, 1, cents), false);
            CHECK.due("turn for " + cents, x.turn(0, 1, cents), false);
        }
        for (long cents : new long[] {0, 1000000}) {
            CHECK.due("change for " + cents, x.change(5, 0, cents), true);
            CHECK.due("turn for " + cents, x.turn(0, 5, cents), true);
        }
    }

    private static void movesHaveADirection() {
        ApartCost x = new ApartCost();
        x.act(0, 0, 2, 1);
        x.act(1, 1, 3, 1);
        x.worth(0, 100);
        x.worth(1, 100);
        CHECK.due("moves: not told", x.run(9) == 2 ? x.gain(-1) : 0, 198 * CENT);
        x.change(0, 1, 7);
        CHECK.due("moves: change", x.run(9), 2);
        CHECK.dueRow("moves: the other way is free", x, 1, 0);
        CHECK.due("moves: gain", x.gain(-1), 198 * CENT);
        x.turn(3, 2, 11);
        x.run(9);
        CHECK.dueRow("moves: the turn back is dearer", x, 0, 1);
        CHECK.due("moves: gain less the change", x.gain(-1), 191 * CENT);
        x.change(0, 1, 20);
        x.run(9);
        CHECK.dueRow("moves: told anew", x, 1, 0);
        CHECK.due("moves: gain less the turn", x.gain(-1), 187 * CENT);
        x.before(0, 1);
        x.turn(2, 3, 3);
        x.run(9);
        CHECK.due("moves: gain less both", x.gain(-1), 175 * CENT);
    }

    private static void worths() {
        ApartCost x = new ApartCost();
        CHECK.due("worth(-1, 0)", x.worth(-1, 0), false);
        CHECK.due("worth(12, 0)", x.worth(12, 0), false);
        CHECK.due("worth(0, 1000001)", x.worth(0, 1000001), false);
        CHECK.due("worth(0, -1000001)", x.worth(0, -1000001), false);
        CHECK.due("worth(0, least)", x.worth(0, Long.MIN_VALUE), false);
        CHECK.due("worth: none was told", x.bound(), 0);
        CHECK.due("worth(11, -1000000)", x.worth(11, -1000000), true);
        CHECK.due("worth(0, 1000000)", x.worth(0, 1000000), true);
        CHECK.due("worth: bound()", x.bound(), 1000000 * CENT);
        CHECK.due("worth told anew", x.worth(0, 5), true);
        CHECK.due("worth: bound() anew", x.bound(), 5 * CENT);
    }

    private static void rests() {
        ApartCost x = new ApartCost();
        CHECK.due("rest(-1, 0)", x.rest(-1, 0), false);
        CHECK.due("rest(4096, 0)", x.rest(4096, 0), false);
        CHECK.due("rest(2^32, 0)", x.rest(1L << 32, 0), false);
        CHECK.due("rest(0, 1000001)", x.rest(0, 1000001), false);
        CHECK.due("rest(0, -1000001)", x.rest(0, -1000001), false);
        CHECK.due("rest(0, 1000000)", x.rest(0, 1000000), true);
        CHECK.due("rest(4095, -1000000)", x.rest(4095, -1000000), true);
        for (int bits = 1; bits < 15; bits++) {
            CHECK.due("rest(" + bits + ", 0)", x.rest(bits, 0), true);
        }
        CHECK.due("rest: a 17th", x.rest(15, 0), false);
        CHECK.due("rest: a 17th that is not such", x.rest(15, 2000000), false);
        CHECK.due("rest: one of the 16, not such", x.rest(0, 2000000), false);
        CHECK.due("rest: still as it was", x.bound(), 1000000 * CENT);
        CHECK.due("rest: one of the 16 anew", x.rest(0, 3), true);
        CHECK.due("rest: and the last of them", x.rest(14, 2), true);
        CHECK.due("rest: bound()", x.bound(), 3 * CENT);
    }

    private static void restsCountByTheirSet() {
        ApartCost x = new ApartCost();
        x.act(0, 0, 0, 10);
        x.act(3, 0, 0, 10);
        x.rest(4095 - 1 - 8, 50);
        CHECK.due("rest: of both", x.run(9), 2);
        CHECK.due("rest: its gain", x.gain(-1), 30 * CENT);
        x.rest(4095 - 8, 45);
        CHECK.due("rest: of one", x.run(9), 1);
        CHECK.dueRow("rest: of one", x, 1);
        CHECK.due("rest: its gain", x.gain(-1), 35 * CENT);
        x.rest(4095, -1);
        x.rest(4095 - 8, -1);
        x.rest(4095 - 1 - 8, -1);
        CHECK.due("rest: below 0 counts, too", x.run(9), 0);
        CHECK.due("rest: its gain", x.gain(-1), -CENT);
        x.breaks(0);
        x.rest(4095 - 1, 12);
        CHECK.due("rest: what breaks is free, too", x.run(9), 1);
        CHECK.dueRow("rest: of the one that breaks", x, 0);
        CHECK.due("rest: its gain", x.gain(-1), 2 * CENT);
    }

    private static void breaking() {
        ApartCost x = new ApartCost();
        CHECK.due("breaks(0): none such", x.breaks(0), false);
        x.act(4, 0, 0, 10);
        x.act(4, 0, 0, 1);
        x.act(-1, 0, 0, 1);
        x.act(5, 0, 0, 1);
        x.worth(4, 100);
        x.worth(5, 200);
        x.run(99);
        CHECK.dueRow("breaks: none", x, 1, 3);
        CHECK.due("breaks(1)", x.breaks(1), true);
        CHECK.due("breaks(1) again", x.breaks(1), false);
        CHECK.due("breaks(-1)", x.breaks(-1), false);
        CHECK.due("breaks(4)", x.breaks(4), false);
        CHECK.due("breaks: frees none", x.breaks(2), true);
        x.before(1, 3);
        x.run(99);
        CHECK.dueRow("breaks: one that breaks is enough", x, 1, 3);
        CHECK.due("breaks: broken", x.gain(4), 0);
        CHECK.due("breaks: the row's gain", x.gain(-1), 198 * CENT);
        CHECK.due("breaks: it is free", x.stops(4), 6);
        x.worth(4, -500);
        x.before(0, 1);
        x.run(99);
        CHECK.due("breaks: a worth below 0 does not count either", x.gain(-1), 188 * CENT);
    }

    private static void chances() {
        ApartCost x = new ApartCost();
        x.worth(3, 60);
        CHECK.due("sure(-1, 1, 2)", x.sure(-1, 1, 2), false);
        CHECK.due("sure(12, 1, 2)", x.sure(12, 1, 2), false);
        CHECK.due("sure(3, 0, 0)", x.sure(3, 0, 0), false);
        CHECK.due("sure(3, 0, -1)", x.sure(3, 0, -1), false);
        CHECK.due("sure(3, -2, -1)", x.sure(3, -2, -1), false);
        CHECK.due("sure(3, 1, 13)", x.sure(3, 1, 13), false);
        CHECK.due("sure(3, -1, 2)", x.sure(3, -1, 2), false);
        CHECK.due("sure(3, 3, 2)", x.sure(3, 3, 2), false);
        CHECK.due("sure(3, 1, 2^32 + 1)", x.sure(3, 1, (1L << 32) + 1), false);
        CHECK.due("sure: still", x.bound(), 60 * CENT);
        for (int below = 1; below <= 12; below++) {
            for (int above = 0; above <= below; above++) {
                CHECK.due("sure(3, " + above + ", " + below + ")", x.sure(3, above, below), true);
                CHECK.due("sure: bound()", x.bound() * below, 60 * CENT * above);
            }
        }
        x.act(3, 0, 0, 20);
        x.sure(3, 1, 3);
        CHECK.due("sure: a third does not pay", x.run(9), 0);
        x.sure(3, 5, 12);
        CHECK.due("sure: five twelfths do", x.run(9), 1);
        CHECK.due("sure: gain(3)", x.gain(3), 25 * CENT);
        CHECK.due("sure: gain(-1)", x.gain(-1), 5 * CENT);
        x.worth(3, 1000000);
        x.sure(3, 1, 11);
        x.run(9);
        CHECK.due("sure: gain(3) in 27720ths", x.gain(3), 1000000L * 2520);
    }

    private static void refusedTellsNothing() {
        ApartCost x = new ApartCost();
        x.act(0, 0, 0, 3);
        x.act(1, 1, 1, 4);
        x.before(0, 1);
        x.worth(0, 10);
        x.worth(1, 10);
        x.breaks(0);
        x.run(9);
        x.act(12, 0, 0, 0);
        x.before(1, 0);
        x.change(0, 0, 1);
        x.change(0, 1, -1);
        x.turn(0, 0, 1);
        x.turn(0, 1, 1000001);
        x.worth(0, 1000001);
        x.rest(4096, 1);
        x.rest(1, 1000001);
        x.breaks(0);
        x.sure(0, 2, 1);
        CHECK.due("refused: proved()", x.proved(), true);
        CHECK.due("refused: states()", x.states(), 3);
        CHECK.due("refused: bound()", x.bound(), 20 * CENT);
        CHECK.due("refused: run", x.run(9), 2);
        CHECK.due("refused: gain(-1)", x.gain(-1), 3 * CENT);
    }
}
