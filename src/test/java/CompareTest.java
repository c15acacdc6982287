import java.util.ArrayList;
import java.util.Arrays;
import java.util.List;
import java.util.Random;

/** Long runs of calls, right and wrong ones, each answer compared with that of Plain. */
public final class CompareTest {
    private static final int RUNS = 3000;
    private static final int FULL_RUNS = 100;
    /** What later calls answer is free. */
    private static final int MOST_CALLS = 512;
    /** So many calls look at all that was found, and so many at the most make and look at one more. */
    private static final int CALLS_OF_A_LOOK = 71;
    private static final int CALLS_OF_A_STEP = 7;

    private final Check check;
    private final int askedBefore;
    private final Random random;
    private final int mostActs;
    /** Small cents make rows of the same gain, and ways of the same longest. */
    private final int mostCents;
    private final String name;
    private final ApartCost x = new ApartCost();
    private final Plain plain = new Plain();

    private List<Integer> row;
    private long gain;
    private long[] brought;
    private boolean current;
    private long[] shared;

    private CompareTest(Check check, int seed, int mostActs) {
        this.check = check;
        this.askedBefore = check.asked();
        this.random = new Random(seed);
        this.mostActs = mostActs;
        this.mostCents = new int[] {3, 12, 1000, 1000000}[random.nextInt(4)];
        this.name = "seed " + seed + ": ";
        this.shared = new long[11];
        Arrays.fill(shared, -1);
    }

    public static void main(String[] args) {
        Check check = new Check();
        for (int seed = 1; seed <= RUNS && check.allRight(); seed++) {
            CompareTest test = new CompareTest(check, seed, 5);
            while (test.callsLeft() >= CALLS_OF_A_STEP + CALLS_OF_A_LOOK && check.allRight()) {
                test.anyCall();
                test.lookAt(test.random.nextInt(14) - 1);
            }
            test.lookAtAll();
        }
        for (int seed = 1; seed <= FULL_RUNS && check.allRight(); seed++) {
            new CompareTest(check, RUNS + seed, 10).fullRun();
        }
        check.end();
    }

    /** Each answer that was compared is one of a call. */
    private int callsLeft() {
        return MOST_CALLS - (check.asked() - askedBefore);
    }

    private void anyCall() {
        int kind = random.nextInt(20);
        switch (kind) {
            case 0, 1 -> act(about(-1, 11), about(0, 5), about(0, 5), aboutCents(0));
            case 2 -> before(about(0, mostActs - 1), about(0, mostActs - 1));
            case 3 -> change(about(0, 5), about(0, 5), aboutCents(0));
            case 4 -> turn(about(0, 5), about(0, 5), aboutCents(0));
            case 5, 6, 7 -> worth(aPart(), aboutCents(-mostCents));
            case 8 -> rest(aRest(), aboutCents(-mostCents));
            case 9 -> breaks(about(0, mostActs - 1));
            case 10, 11 -> sure(aPart(), about(0, 12), about(1, 12));
            case 12 -> check.due(name + "states()", x.states(), plain.states());
            case 13, 14, 15 -> run(random.nextInt(3) == 0 ? random.nextInt(20) : 9999);
            case 16 -> check.due(name + "bound()", x.bound(), plain.bound());
            case 17 -> test(aPart(), aboutCents(0));
            default -> stations(about(1, 4));
        }
    }

    /** Ten acts, most of which need others, so that Plain comes to an end. */
    private void fullRun() {
        for (int act = 0; act < 10; act++) {
            act(random.nextInt(12), random.nextInt(6), random.nextInt(6), random.nextInt(mostCents + 1));
            worth(random.nextInt(12), random.nextInt(4 * mostCents + 1));
        }
        for (int k = 0; k < 30; k++) {
            change(about(0, 5), about(0, 5), random.nextInt(mostCents + 1));
            turn(about(0, 5), about(0, 5), random.nextInt(mostCents + 1));
        }
        for (int k = 0; k < 60 && plain.states() > 200; k++) {
            before(random.nextInt(10), random.nextInt(10));
        }
        sure(aPart(), random.nextInt(6), 1 + random.nextInt(12));
        check.due(name + "states()", x.states(), plain.states());
        run(plain.states() - 1);
        run(plain.states());
        lookAtAll();
        for (int n = 1; n <= 4; n++) {
            stations(n);
            lookAtStations();
        }
        for (int k = 0; k < 3; k++) {
            before(random.nextInt(10), random.nextInt(10));
            stations(2 + random.nextInt(3));
            lookAtStations();
        }
        if (callsLeft() >= CALLS_OF_A_LOOK) {
            lookAtAll();
        }
        check.due(name + "calls left", callsLeft() >= 0, true);
    }

    /** A number of a range, now and then just beside it. */
    private int about(int least, int most) {
        if (random.nextInt(12) == 0) {
            return random.nextBoolean() ? least - 1 : most + 1;
        }
        return least + random.nextInt(most - least + 1);
    }

    private long aboutCents(int least) {
        if (random.nextInt(12) == 0) {
            return random.nextBoolean() ? (least < 0 ? -1000001 : -1) : 1000001;
        }
        return least + random.nextInt(mostCents - least + 1);
    }

    private int aPart() {
        return random.nextInt(3) == 0 ? about(0, 11) : random.nextInt(5);
    }

    /** Often a rest that there can be: all parts without some that acts free. */
    private long aRest() {
        if (random.nextInt(4) == 0) {
            return about(0, 4095);
        }
        int bits = 4095;
        for (Plain.Act act : plain.acts) {
            if (act.frees() >= 0 && random.nextBoolean()) {
                bits &= ~(1 << act.frees());
            }
        }
        return bits;
    }

    private boolean in(long number, long least, long most) {
        return number >= least && number <= most;
    }

    private boolean isAct(int act) {
        return act >= 0 && act < plain.acts.size();
    }

    private void told(String call, boolean got, boolean right) {
        check.due(name + call, got, right);
        if (right) {
            current = false;
        }
    }

    private void act(int frees, int tool, int side, long cents) {
        if (plain.acts.size() == mostActs && mostActs < 10) {
            return;
        }
        // parts are few, so that some are freed by several acts
        int part = frees > 4 && frees < 12 && mostActs < 10 ? frees % 5 : frees;
        boolean right = in(part, -1, 11) && in(tool, 0, 5) && in(side, 0, 5) && in(cents, 0, 1000000)
            && plain.acts.size() < 10;
        int due = right ? plain.acts.size() : -1;
        check.due(name + "act(" + part + ", " + tool + ", " + side + ", " + cents + ")",
            x.act(part, tool, side, cents), due);
        if (right) {
            plain.acts.add(new Plain.Act(part, tool, side, cents));
            current = false;
        }
    }

    private void before(int a, int b) {
        boolean right = isAct(a) && isAct(b) && a != b && !plain.needsAtAll(a, b);
        told("before(" + a + ", " + b + ")", x.before(a, b), right);
        if (right) {
            plain.needs[b][a] = true;
        }
    }

    private void change(int from, int to, long cents) {
        boolean right = in(from, 0, 5) && in(to, 0, 5) && from != to && in(cents, 0, 1000000);
        told("change(" + from + ", " + to + ", " + cents + ")", x.change(from, to, cents), right);
        if (right) {
            plain.change[from][to] = cents;
        }
    }

    private void turn(int from, int to, long cents) {
        boolean right = in(from, 0, 5) && in(to, 0, 5) && from != to && in(cents, 0, 1000000);
        told("turn(" + from + ", " + to + ", " + cents + ")", x.turn(from, to, cents), right);
        if (right) {
            plain.turn[from][to] = cents;
        }
    }

    private void worth(int part, long cents) {
        boolean right = in(part, 0, 11) && in(cents, -1000000, 1000000);
        told("worth(" + part + ", " + cents + ")", x.worth(part, cents), right);
        if (right) {
            plain.worth[part] = cents;
        }
    }

    private void rest(long bits, long cents) {
        boolean right = in(bits, 0, 4095) && in(cents, -1000000, 1000000)
            && (plain.rests.containsKey((int) bits) || plain.rests.size() < 16);
        told("rest(" + bits + ", " + cents + ")", x.rest(bits, cents), right);
        if (right) {
            plain.rests.put((int) bits, cents);
        }
    }

    private void breaks(int act) {
        boolean right = isAct(act) && !plain.breaks[act];
        told("breaks(" + act + ")", x.breaks(act), right);
        if (right) {
            plain.breaks[act] = true;
        }
    }

    private void sure(int part, long above, long below) {
        boolean right = in(part, 0, 11) && in(below, 1, 12) && in(above, 0, below);
        told("sure(" + part + ", " + above + ", " + below + ")", x.sure(part, above, below), right);
        if (right) {
            plain.above[part] = above;
            plain.below[part] = below;
        }
    }

    private void run(long nodes) {
        if (plain.states() > nodes) {
            check.due(name + "run(" + nodes + ")", x.run(nodes), -1);
            return;
        }
        Plain.Best best = plain.best();
        row = best.row();
        gain = best.gain();
        brought = new long[Plain.PARTS];
        for (int part = 0; part < Plain.PARTS; part++) {
            brought[part] = plain.brought(row, part);
        }
        current = true;
        check.due(name + "run(" + nodes + ")", x.run(nodes), row.size());
    }

    private void test(int part, long cents) {
        boolean right = in(part, 0, 11) && in(cents, 0, 1000000);
        check.due(name + "test(" + part + ", " + cents + ")", x.test(part, cents),
            right ? plain.test(part, cents) : -1);
    }

    private void stations(int n) {
        if (row == null || !in(n, 1, 4)) {
            check.due(name + "stations(" + n + ")", x.stations(n), -1);
            return;
        }
        shared = plain.shareOut(row, n);
        check.due(name + "stations(" + n + ")", x.stations(n), shared[10]);
    }

    private void lookAtAll() {
        for (int k = -1; k <= 12; k++) {
            lookAt(k);
        }
    }

    private void lookAt(int k) {
        List<Integer> stops = new ArrayList<>();
        List<Integer> others = new ArrayList<>();
        for (int part = 0; row != null && part < Plain.PARTS; part++) {
            if (!plain.isFree(row, part)) {
                stops.add(part);
            }
        }
        for (int act = 0; row != null && act < plain.acts.size(); act++) {
            if (!row.contains(act)) {
                others.add(act);
            }
        }
        check.due(name + "step(" + k + ")", x.step(k), of(row, k));
        check.due(name + "stops(" + k + ")", x.stops(k), of(stops, k));
        check.due(name + "other(" + k + ")", x.other(k), of(others, k));
        check.due(name + "station(" + k + ")", x.station(k), in(k, 0, 9) ? shared[k] : -1);
        long due = row == null || k == 12 ? 0 : k == -1 ? gain : brought[k];
        check.due(name + "gain(" + k + ")", x.gain(k), due);
        if (k < 0) {
            check.due(name + "proved()", x.proved(), current);
        }
    }

    private void lookAtStations() {
        for (int act = 0; act < 10; act++) {
            check.due(name + "station(" + act + ")", x.station(act), shared[act]);
        }
    }

    private static long of(List<Integer> list, int k) {
        return list != null && k >= 0 && k < list.size() ? list.get(k) : -1;
    }
}
