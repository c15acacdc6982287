import java.util.Arrays;

/**
 * Takes a product apart at least cost: acts free its parts, each behind those that it needs, with
 * tools and turns. Sets of acts and of parts are held as bits of an int; gains are held in 27720ths
 * of a cent, so that every chance with a divisor of 1 to 12 stays whole.
 */
public final class ApartCost {
    public static final int NONE = -1;

    private static final int PARTS = 12;
    private static final int ALL_PARTS = (1 << PARTS) - 1;
    private static final int ACTS = 10;
    private static final int KINDS = 6;
    private static final int RESTS = 16;
    private static final int STATIONS = 4;
    private static final long MOST_CENTS = 1000000L;
    private static final long WHOLE = 27720L;
    private static final int MOST_BELOW = 12;

    private final Product product;
    private final Planner planner;
    private final Found found;
    private final Line line;

    public ApartCost() {
        product = new Product();
        planner = new Planner(product);
        found = new Found();
        line = new Line(product);
    }

    public int act(int frees, int tool, int side, long cents) {
        boolean freesRight = frees == NONE || isPart(frees);
        if (product.acts >= ACTS || !freesRight || !isKind(tool) || !isKind(side) || !isPrice(cents)) {
            return NONE;
        }
        found.upToDate = false;
        return product.addAct(frees, tool, side, cents);
    }

    public boolean before(int a, int b) {
        if (!product.hasAct(a) || !product.hasAct(b) || a == b || has(product.needs[a], b)) {
            return false;
        }
        product.addNeed(a, b);
        found.upToDate = false;
        return true;
    }

    public boolean change(int toolA, int toolB, long cents) {
        if (!isMove(toolA, toolB) || !isPrice(cents)) {
            return false;
        }
        product.changes[toolA * KINDS + toolB] = cents;
        found.upToDate = false;
        return true;
    }

    public boolean turn(int sideA, int sideB, long cents) {
        if (!isMove(sideA, sideB) || !isPrice(cents)) {
            return false;
        }
        product.turns[sideA * KINDS + sideB] = cents;
        found.upToDate = false;
        return true;
    }

    public boolean worth(int part, long cents) {
        if (!isPart(part) || !isWorth(cents)) {
            return false;
        }
        product.worths[part] = cents;
        found.upToDate = false;
        return true;
    }

    public boolean rest(long bits, long cents) {
        if (bits < 0 || bits > ALL_PARTS || !isWorth(cents) || !product.tellRest((int) bits, cents)) {
            return false;
        }
        found.upToDate = false;
        return true;
    }

    public boolean breaks(int act) {
        if (!product.hasAct(act) || has(product.breaking, act)) {
            return false;
        }
        product.breaking |= 1 << act;
        found.upToDate = false;
        return true;
    }

    public boolean sure(int part, long above, long below) {
        if (!isPart(part) || below < 1 || below > MOST_BELOW || above < 0 || above > below) {
            return false;
        }
        product.shares[part] = WHOLE / below * above;
        found.upToDate = false;
        return true;
    }

    public long states() {
        return product.countStates();
    }

    public int run(long nodes) {
        if (product.countStates() > nodes) {
            return NONE;
        }
        planner.valueAsTold();
        found.total = planner.greatestGain();
        found.keepRow(planner);
        return found.length;
    }

    public int step(int k) {
        return k >= 0 && k < found.length ? found.row[k] : NONE;
    }

    public int stops(int k) {
        return found.any ? member(ALL_PARTS & ~found.free, k) : NONE;
    }

    public int other(int k) {
        return found.any ? member(product.allActs() & ~found.set, k) : NONE;
    }

    public long gain(int part) {
        if (part == NONE) {
            return found.total;
        }
        return isPart(part) ? found.brought[part] : 0L;
    }

    public boolean proved() {
        return found.any && found.upToDate;
    }

    public long bound() {
        long most = 0L;
        for (int rest = 0; rest < product.rests; rest++) {
            most = Math.max(most, product.restCents[rest] * WHOLE);
        }
        for (int part = 0; part < PARTS; part++) {
            most += Math.max(0L, product.valueOf(part));
        }
        return most;
    }

    public int test(int part, long cents) {
        if (!isPart(part) || !isPrice(cents)) {
            return NONE;
        }
        planner.valueAsTold();
        long without = planner.greatestGain();
        planner.valueByShare(part, WHOLE);
        long ifWorth = planner.greatestGain();
        planner.valueByShare(part, 0L);
        long ifNothing = planner.greatestGain();
        // Both sides stand in 27720ths of 27720ths: the shares are not divided out, so nothing is rounded.
        long share = product.shares[part];
        long tested = share * ifWorth + (WHOLE - share) * ifNothing - cents * WHOLE * WHOLE;
        return tested > without * WHOLE ? 1 : 0;
    }

    public int stations(int n) {
        if (!found.any || n < 1 || n > STATIONS) {
            return NONE;
        }
        return (int) line.shareOut(found.set, n);
    }

    public int station(int act) {
        return act >= 0 && act < ACTS ? line.told[act] : NONE;
    }

    private static boolean isPart(int part) {
        return part >= 0 && part < PARTS;
    }

    private static boolean isKind(int kind) {
        return kind >= 0 && kind < KINDS;
    }

    private static boolean isMove(int from, int to) {
        return isKind(from) && isKind(to) && from != to;
    }

    private static boolean isPrice(long cents) {
        return cents >= 0 && cents <= MOST_CENTS;
    }

    private static boolean isWorth(long cents) {
        return cents >= -MOST_CENTS && cents <= MOST_CENTS;
    }

    private static boolean has(int set, int number) {
        return (set >> number & 1) != 0;
    }

    /** The k-th number of a set, from 0 on; NONE when it has no such. */
    private static int member(int set, int k) {
        int before = 0;
        for (int number = 0; number < PARTS; number++) {
            if (has(set, number)) {
                if (before == k) {
                    return number;
                }
                before++;
            }
        }
        return NONE;
    }

    /** The product as it was told. */
    private static final class Product {
        int acts;
        final int[] frees = new int[ACTS];
        final int[] tools = new int[ACTS];
        final int[] sides = new int[ACTS];
        final long[] cents = new long[ACTS];
        /** All that an act needs, be it through others, so that a circle is seen at once. */
        final int[] needs = new int[ACTS];
        int breaking;
        final long[] changes = new long[KINDS * KINDS];
        final long[] turns = new long[KINDS * KINDS];
        final long[] worths = new long[PARTS];
        /** Each part's chance in 27720ths. */
        final long[] shares = new long[PARTS];
        int rests;
        final int[] restParts = new int[RESTS];
        final long[] restCents = new long[RESTS];

        Product() {
            Arrays.fill(shares, WHOLE);
        }

        boolean hasAct(int act) {
            return act >= 0 && act < acts;
        }

        int allActs() {
            return (1 << acts) - 1;
        }

        int addAct(int part, int tool, int side, long price) {
            int number = acts;
            frees[number] = part;
            tools[number] = tool;
            sides[number] = side;
            cents[number] = price;
            acts++;
            return number;
        }

        void addNeed(int needed, int needing) {
            int more = needs[needed] | 1 << needed;
            for (int act = 0; act < acts; act++) {
                if (act == needing || has(needs[act], needing)) {
                    needs[act] |= more;
                }
            }
        }

        boolean tellRest(int parts, long price) {
            int place = placeOfRest(parts);
            if (place >= RESTS) {
                return false;
            }
            if (place == rests) {
                rests++;
            }
            restParts[place] = parts;
            restCents[place] = price;
            return true;
        }

        private int placeOfRest(int parts) {
            for (int place = 0; place < rests; place++) {
                if (restParts[place] == parts) {
                    return place;
                }
            }
            return rests;
        }

        long restWorth(int parts) {
            int place = placeOfRest(parts);
            return place < rests ? restCents[place] : 0L;
        }

        long valueOf(int part) {
            return worths[part] * shares[part];
        }

        int freedBy(int set) {
            int freed = 0;
            for (int act = 0; act < acts; act++) {
                if (has(set, act) && frees[act] != NONE) {
                    freed |= 1 << frees[act];
                }
            }
            return freed;
        }

        int wholeBy(int set) {
            return freedBy(set) & ~freedBy(set & breaking);
        }

        /** What doing an act costs behind the last one, or as the first one when that is NONE. */
        long centsOfStep(int last, int next) {
            if (last == NONE) {
                return cents[next];
            }
            long change = changes[tools[last] * KINDS + tools[next]];
            long turn = turns[sides[last] * KINDS + sides[next]];
            return cents[next] + change + turn;
        }

        /** All that the acts of a set need. */
        private int neededBy(int set) {
            int needed = 0;
            for (int act = 0; act < acts; act++) {
                if (has(set, act)) {
                    needed |= needs[act];
                }
            }
            return needed;
        }

        /** The acts that can be the last of a set; none when the set lacks what its acts need. */
        int lastsOf(int set) {
            int needed = neededBy(set);
            return (needed & ~set) == 0 ? set & ~needed : 0;
        }

        /** The acts that can come next behind those of a set. */
        int nextsOf(int set) {
            int nexts = 0;
            for (int act = 0; act < acts; act++) {
                if (!has(set, act) && (needs[act] & ~set) == 0) {
                    nexts |= 1 << act;
                }
            }
            return nexts;
        }

        long countStates() {
            long count = 1L;
            for (int set = 1; set <= allActs(); set++) {
                count += Integer.bitCount(lastsOf(set));
            }
            return count;
        }
    }

    /** Finds the greatest gain, and its first row, from the last states back to the beginning. */
    private static final class Planner {
        final Product product;
        /** What each part brings if it is free and whole. */
        final long[] values = new long[PARTS];
        /** What each step costs; the row behind those of all acts is for the first step. */
        private final long[] steps = new long[(ACTS + 1) * ACTS];
        /** By state, the greatest gain from there on: what counts at the end, less the steps to come. */
        private final long[] most = new long[(1 << ACTS) * ACTS];

        Planner(Product product) {
            this.product = product;
        }

        void valueAsTold() {
            for (int part = 0; part < PARTS; part++) {
                values[part] = product.valueOf(part);
            }
        }

        void valueByShare(int part, long share) {
            values[part] = product.worths[part] * share;
        }

        long greatestGain() {
            setSteps();
            for (int set = product.allActs(); set > 0; set--) {
                setMost(set);
            }
            return mostFrom(NONE, 0, product.nextsOf(0), endOf(0));
        }

        /** The best row's act behind a beginning of it; NONE when it ends there. Needs greatestGain() before. */
        int bestNext(int set, int last) {
            int nexts = product.nextsOf(set);
            long end = endOf(set);
            long best = mostFrom(last, set, nexts, end);
            if (best == end) {
                return NONE;
            }
            for (int next = 0; next < product.acts; next++) {
                if (has(nexts, next) && mostBy(last, set, next) == best) {
                    return next;
                }
            }
            return NONE;
        }

        private void setSteps() {
            for (int next = 0; next < product.acts; next++) {
                for (int last = NONE; last < product.acts; last++) {
                    steps[stepPlace(last, next)] = product.centsOfStep(last, next) * WHOLE;
                }
            }
        }

        private static int stepPlace(int last, int next) {
            return (last == NONE ? ACTS : last) * ACTS + next;
        }

        private void setMost(int set) {
            int lasts = product.lastsOf(set);
            if (lasts == 0) {
                return;
            }
            int nexts = product.nextsOf(set);
            long end = endOf(set);
            for (int last = 0; last < product.acts; last++) {
                if (has(lasts, last)) {
                    most[set * ACTS + last] = mostFrom(last, set, nexts, end);
                }
            }
        }

        private long mostFrom(int last, int set, int nexts, long end) {
            long best = end;
            for (int next = 0; next < product.acts; next++) {
                if (has(nexts, next)) {
                    best = Math.max(best, mostBy(last, set, next));
                }
            }
            return best;
        }

        private long mostBy(int last, int set, int next) {
            return most[(set | 1 << next) * ACTS + next] - steps[stepPlace(last, next)];
        }

        /** What counts when the acts of a set are done, and no more. */
        private long endOf(int set) {
            int whole = product.wholeBy(set);
            long end = product.restWorth(ALL_PARTS & ~product.freedBy(set)) * WHOLE;
            for (int part = 0; part < PARTS; part++) {
                if (has(whole, part)) {
                    end += values[part];
                }
            }
            return end;
        }
    }

    /** The best row as it was when it was found: what is told later leaves it alone. */
    private static final class Found {
        boolean any;
        boolean upToDate;
        int length;
        int set;
        int free;
        long total;
        final int[] row = new int[ACTS];
        final long[] brought = new long[PARTS];

        void keepRow(Planner planner) {
            length = 0;
            set = 0;
            int next = planner.bestNext(0, NONE);
            while (next != NONE && length < ACTS) {
                row[length] = next;
                length++;
                set |= 1 << next;
                next = planner.bestNext(set, next);
            }
            keepParts(planner);
            any = true;
            upToDate = true;
        }

        private void keepParts(Planner planner) {
            free = planner.product.freedBy(set);
            int whole = planner.product.wholeBy(set);
            for (int part = 0; part < PARTS; part++) {
                brought[part] = has(whole, part) ? planner.values[part] : 0L;
            }
        }
    }

    /** Shares out acts to stations in line. */
    private static final class Line {
        final int[] told = new int[ACTS];
        private final Product product;
        private final int[] trial = new int[ACTS];
        private final long[] loads = new long[STATIONS];
        private int set;
        private int stations;
        private long longest;
        private long least;

        Line(Product product) {
            this.product = product;
            Arrays.fill(told, NONE);
        }

        long shareOut(int acts, int n) {
            set = acts;
            stations = n;
            setLimits();
            Arrays.fill(loads, 0L);
            tryFrom(this, 0, 0L);
            return longest;
        }

        private void setLimits() {
            long total = 0L;
            long dearest = 0L;
            for (int act = 0; act < product.acts; act++) {
                if (has(set, act)) {
                    total += product.cents[act];
                    dearest = Math.max(dearest, product.cents[act]);
                }
            }
            longest = total + 1L;
            least = stations > 0 ? Math.max(dearest, (total + stations - 1L) / stations) : total;
        }

        /**
         * Tries all ways for the acts from one on, the lesser stations first. A way is kept only if it
         * is better than the one before, so the first of the best ways stays.
         */
        private static void tryFrom(Line line, int act, long load) {
            if (act >= line.product.acts) {
                line.keepTrial(load);
                return;
            }
            if (!has(line.set, act)) {
                tryFrom(line, act + 1, load);
                return;
            }
            long cents = line.product.cents[act];
            int latest = line.latestFor(act);
            for (int place = line.earliestFor(act); place <= latest && line.longest > line.least; place++) {
                long more = Math.max(load, line.loads[place] + cents);
                if (more < line.longest) {
                    line.trial[act] = place;
                    line.loads[place] += cents;
                    tryFrom(line, act + 1, more);
                    line.loads[place] -= cents;
                }
            }
        }

        private void keepTrial(long load) {
            longest = load;
            for (int act = 0; act < product.acts; act++) {
                told[act] = has(set, act) ? trial[act] : NONE;
            }
        }

        private int earliestFor(int act) {
            int earliest = 0;
            for (int placed = 0; placed < act; placed++) {
                if (has(set & product.needs[act], placed)) {
                    earliest = Math.max(earliest, trial[placed]);
                }
            }
            return earliest;
        }

        private int latestFor(int act) {
            int latest = stations - 1;
            for (int placed = 0; placed < act; placed++) {
                if (has(set, placed) && has(product.needs[placed], act)) {
                    latest = Math.min(latest, trial[placed]);
                }
            }
            return latest;
        }
    }
}
