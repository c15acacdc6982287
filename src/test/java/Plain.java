import java.util.ArrayList;
import java.util.HashMap;
import java.util.List;
import java.util.Map;

/**
 * The document's terms word by word, for comparing: every row is looked at, every set, every way to
 * share out. It takes only right calls, and answers for few acts, or for many that need one another.
 */
final class Plain {
    static final int PARTS = 12;

    record Act(int frees, int tool, int side, long cents) {
    }

    record Best(List<Integer> row, long gain) {
    }

    final List<Act> acts = new ArrayList<>();
    final boolean[][] needs = new boolean[10][10];
    final boolean[] breaks = new boolean[10];
    final long[][] change = new long[6][6];
    final long[][] turn = new long[6][6];
    final long[] worth = new long[PARTS];
    final long[] above = new long[PARTS];
    final long[] below = new long[PARTS];
    final Map<Integer, Long> rests = new HashMap<>();

    private List<Integer> bestRow;
    private long bestGain;

    Plain() {
        java.util.Arrays.fill(above, 1);
        java.util.Arrays.fill(below, 1);
    }

    /** Whether an act needs another one, it itself, or what it needs, and so on. */
    boolean needsAtAll(int later, int earlier) {
        for (int act = 0; act < acts.size(); act++) {
            if (needs[later][act] && (act == earlier || needsAtAll(act, earlier))) {
                return true;
            }
        }
        return false;
    }

    long brought(List<Integer> row, int part) {
        boolean free = false;
        for (int act : row) {
            if (acts.get(act).frees() == part) {
                free = true;
                if (breaks[act]) {
                    return 0;
                }
            }
        }
        return free ? 27720 * worth[part] * above[part] / below[part] : 0;
    }

    boolean isFree(List<Integer> row, int part) {
        for (int act : row) {
            if (acts.get(act).frees() == part) {
                return true;
            }
        }
        return false;
    }

    long gainOf(List<Integer> row) {
        long gain = 0;
        int rest = 0;
        for (int part = 0; part < PARTS; part++) {
            gain += brought(row, part);
            if (!isFree(row, part)) {
                rest += 1 << part;
            }
        }
        gain += 27720 * rests.getOrDefault(rest, 0L);
        for (int k = 0; k < row.size(); k++) {
            Act act = acts.get(row.get(k));
            gain -= 27720 * act.cents();
            if (k > 0) {
                Act last = acts.get(row.get(k - 1));
                gain -= 27720 * (change[last.tool()][act.tool()] + turn[last.side()][act.side()]);
            }
        }
        return gain;
    }

    /** The rows are looked at in their order, so the first of the best ones stays. */
    Best best() {
        bestRow = null;
        look(new ArrayList<>());
        return new Best(bestRow, bestGain);
    }

    private void look(List<Integer> row) {
        long gain = gainOf(row);
        if (bestRow == null || gain > bestGain) {
            bestRow = new ArrayList<>(row);
            bestGain = gain;
        }
        for (int act = 0; act < acts.size(); act++) {
            if (!row.contains(act) && hasAllNeeds(row, act)) {
                row.add(act);
                look(row);
                row.remove(row.size() - 1);
            }
        }
    }

    private boolean hasAllNeeds(List<Integer> row, int act) {
        for (int needed = 0; needed < acts.size(); needed++) {
            if (needs[act][needed] && !row.contains(needed)) {
                return false;
            }
        }
        return true;
    }

    long states() {
        long count = 1;
        for (int bits = 0; bits < 1 << acts.size(); bits++) {
            List<Integer> set = new ArrayList<>();
            for (int act = 0; act < acts.size(); act++) {
                if ((bits & 1 << act) != 0) {
                    set.add(act);
                }
            }
            count += lasts(set);
        }
        return count;
    }

    private int lasts(List<Integer> set) {
        int lasts = 0;
        for (int act : set) {
            if (!hasAllNeeds(set, act)) {
                return 0;
            }
        }
        for (int last : set) {
            boolean needed = false;
            for (int act : set) {
                needed |= needs[act][last];
            }
            lasts += needed ? 0 : 1;
        }
        return lasts;
    }

    long bound() {
        long most = 0;
        for (long cents : rests.values()) {
            most = Math.max(most, 27720 * cents);
        }
        for (int part = 0; part < PARTS; part++) {
            if (worth[part] > 0) {
                most += 27720 * worth[part] * above[part] / below[part];
            }
        }
        return most;
    }

    int test(int part, long cents) {
        long up = above[part];
        long down = below[part];
        long without = best().gain();
        above[part] = down;
        long ifWorth = best().gain();
        above[part] = 0;
        long ifNothing = best().gain();
        above[part] = up;
        return up * ifWorth + (down - up) * ifNothing - 27720 * cents * down > without * down ? 1 : 0;
    }

    /** The station of each act (-1 of those not in the row), and behind them the longest. */
    long[] shareOut(List<Integer> row, int n) {
        List<Integer> byNumber = new ArrayList<>(row);
        byNumber.sort(null);
        long ways = 1;
        for (int k = 0; k < byNumber.size(); k++) {
            ways *= n;
        }
        long[] told = null;
        for (long way = 0; way < ways; way++) {
            long[] next = wayOf(byNumber, n, way, ways);
            if (keepsToNeeds(byNumber, next) && (told == null || next[10] < told[10])) {
                told = next;
            }
        }
        return told;
    }

    /** The way's number written by station numbers, the least act's first. */
    private long[] wayOf(List<Integer> byNumber, int n, long way, long ways) {
        long[] told = new long[11];
        java.util.Arrays.fill(told, 0, 10, -1);
        long[] sums = new long[n];
        long left = way;
        long size = ways;
        for (int act : byNumber) {
            size /= n;
            int place = (int) (left / size);
            left %= size;
            told[act] = place;
            sums[place] += acts.get(act).cents();
            told[10] = Math.max(told[10], sums[place]);
        }
        return told;
    }

    private boolean keepsToNeeds(List<Integer> row, long[] told) {
        for (int a : row) {
            for (int b : row) {
                if (told[a] < told[b] && needsAtAll(a, b)) {
                    return false;
                }
            }
        }
        return true;
    }
}
