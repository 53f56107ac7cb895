import java.util.ArrayList;
import java.util.List;
import java.util.TreeSet;

/**
 * The document taken word by word, tick by tick and set by set, without a thought of speed: it
 * shares no way of reckoning with the class.
 */
final class Model {
    private static final int LAST = 20000;

    private record Seen(int tick, int first, int width, int length, int kind) {
        boolean has(int jet) {
            return jet >= first && jet < first + width;
        }
    }

    private final int jets;
    private final List<long[]> speeds = new ArrayList<>();
    private final List<long[]> marks = new ArrayList<>();
    private final List<int[]> strengths = new ArrayList<>();
    private final List<Seen> pieces = new ArrayList<>();
    private final long[] worths = new long[4];
    private int distance;
    private int open;
    private int close;
    private long[] places;

    private List<TreeSet<Integer>> foundBlows = new ArrayList<>();
    private int[] found = new int[0];
    private Boolean[] told = new Boolean[0];
    private long foundWorth;
    private long foundAir;

    Model(int jets) {
        this.jets = jets >= 1 && jets <= 16 ? jets : 1;
    }

    private static boolean addRow(List<long[]> rows, long tick, long steps, long least, long most) {
        boolean later = rows.isEmpty() || tick > rows.get(rows.size() - 1)[0];
        if (rows.size() == 8 || !later || tick < 0 || tick > LAST || steps < least || steps > most) {
            return false;
        }
        rows.add(new long[] {tick, steps});
        return true;
    }

    boolean speed(long tick, int steps) {
        places = null;
        return addRow(speeds, tick, steps, 0, 1000);
    }

    boolean mark(long tick, long steps) {
        places = null;
        return addRow(marks, tick, steps, -10000, 10000);
    }

    private long told(long tick) {
        if (marks.isEmpty() || tick < marks.get(0)[0]) {
            return 0;
        }
        for (int i = 0; i + 1 < marks.size(); i++) {
            long[] a = marks.get(i);
            long[] b = marks.get(i + 1);
            if (a[0] <= tick && tick < b[0]) {
                long over = a[1] * (b[0] - tick) + b[1] * (tick - a[0]);
                long down = over / (b[0] - a[0]);
                return down * (b[0] - a[0]) > over ? down - 1 : down;
            }
        }
        return marks.get(marks.size() - 1)[1];
    }

    private long place(int tick) {
        if (places == null) {
            places = new long[LAST + 1];
            long went = 0;
            for (int t = 0; t <= LAST; t++) {
                places[t] = went + told(t);
                long steps = 0;
                for (long[] row : speeds) {
                    steps = row[0] <= t ? row[1] : steps;
                }
                went += steps;
            }
        }
        return places[tick];
    }

    long at(long tick) {
        return tick < 0 || tick > LAST ? 0 : place((int) tick);
    }

    boolean distance(int steps) {
        if (steps < 0 || steps > 100000) {
            return false;
        }
        distance = steps;
        return true;
    }

    boolean lag(int open, int close) {
        if (open < 0 || open > 100 || close < 0 || close > 100) {
            return false;
        }
        this.open = open;
        this.close = close;
        return true;
    }

    int piece(long tick, int first, int width, long length, int kind) {
        boolean jetsAreThere = first >= 0 && width >= 1 && (long) first + width <= jets;
        if (pieces.size() == 12 || !jetsAreThere || tick < 0 || tick > LAST || length < 0
                || length > 1000 || kind < 0 || kind > 3) {
            return -1;
        }
        pieces.add(new Seen((int) tick, first, width, (int) length, kind));
        return pieces.size() - 1;
    }

    boolean wanted(int kind, long worth) {
        if (kind < 0 || kind > 3 || worth < -1000000 || worth > 1000000) {
            return false;
        }
        worths[kind] = worth;
        return true;
    }

    int middle(int piece) {
        if (piece < 0 || piece >= pieces.size()) {
            return -1;
        }
        Seen seen = pieces.get(piece);
        for (int t = seen.tick; t <= LAST; t++) {
            if (place(t) >= place(seen.tick) + distance + seen.length / 2) {
                return t;
            }
        }
        return -1;
    }

    private TreeSet<Integer> blow(int piece) {
        TreeSet<Integer> ticks = new TreeSet<>();
        int middle = middle(piece);
        if (middle != -1) {
            for (int t = middle - open; t <= middle + close; t++) {
                if (t >= 0) {
                    ticks.add(t);
                }
            }
        }
        return ticks;
    }

    private boolean meeting(int a, TreeSet<Integer> blowA, int b, TreeSet<Integer> blowB) {
        boolean jet = false;
        for (int j = 0; j < jets; j++) {
            jet |= pieces.get(a).has(j) && pieces.get(b).has(j);
        }
        TreeSet<Integer> both = new TreeSet<>(blowA);
        both.retainAll(blowB);
        return jet && !both.isEmpty();
    }

    boolean meet(int a, int b) {
        int count = pieces.size();
        return a != b && a >= 0 && b >= 0 && a < count && b < count
                && meeting(a, blow(a), b, blow(b));
    }

    int run() {
        int count = pieces.size();
        foundBlows = new ArrayList<>();
        for (int p = 0; p < count; p++) {
            foundBlows.add(blow(p));
        }
        boolean[][] meets = new boolean[count][count];
        int[] group = new int[count];
        for (int p = 0; p < count; p++) {
            group[p] = p;
            for (int q = 0; q < count; q++) {
                meets[p][q] = p != q && meeting(p, foundBlows.get(p), q, foundBlows.get(q));
            }
        }
        for (int round = 0; round < count; round++) {
            for (int p = 0; p < count; p++) {
                for (int q = 0; q < count; q++) {
                    if (meets[p][q]) {
                        group[p] = Math.min(group[p], group[q]);
                    }
                }
            }
        }
        TreeSet<Integer> aimed = new TreeSet<>();
        for (int g = 0; g < count; g++) {
            List<Integer> members = new ArrayList<>();
            for (int p = 0; p < count; p++) {
                if (group[p] == g && !foundBlows.get(p).isEmpty()) {
                    members.add(p);
                }
            }
            aimed.addAll(best(members, meets));
        }
        return keep(count, aimed, hits(aimed, meets));
    }

    private int keep(int count, TreeSet<Integer> aimed, TreeSet<Integer> hits) {
        found = new int[count];
        told = new Boolean[count];
        foundWorth = worthOf(hits);
        foundAir = 0;
        for (int p : hits) {
            found[p] = 1;
        }
        for (int p : aimed) {
            found[p] = 2;
            int strength = 1;
            for (int[] row : strengths) {
                int length = pieces.get(p).length;
                strength = row[0] <= length && length <= row[1] ? row[2] : strength;
            }
            foundAir += (long) strength * pieces.get(p).width * foundBlows.get(p).size();
        }
        return hits.size();
    }

    private TreeSet<Integer> best(List<Integer> members, boolean[][] meets) {
        TreeSet<Integer> best = new TreeSet<>();
        if (members.size() > 8) {
            for (int p : members) {
                if (worths[pieces.get(p).kind] > 0) {
                    best.add(p);
                }
            }
            return best;
        }
        // From the last set to the first, so that the order of trying can't stand in for the sum.
        for (int bits = (1 << members.size()) - 1; bits > 0; bits--) {
            TreeSet<Integer> set = new TreeSet<>();
            for (int i = 0; i < members.size(); i++) {
                if ((bits & 1 << i) != 0) {
                    set.add(members.get(i));
                }
            }
            if (isBetter(set, best, meets)) {
                best = set;
            }
        }
        return best;
    }

    private boolean isBetter(TreeSet<Integer> a, TreeSet<Integer> b, boolean[][] meets) {
        long worthA = worthOf(hits(a, meets));
        long worthB = worthOf(hits(b, meets));
        if (worthA != worthB) {
            return worthA > worthB;
        }
        return a.size() != b.size() ? a.size() < b.size() : sum(a) < sum(b);
    }

    private static long sum(TreeSet<Integer> set) {
        long sum = 0;
        for (int p : set) {
            sum += Math.round(Math.pow(2, p));
        }
        return sum;
    }

    private static TreeSet<Integer> hits(TreeSet<Integer> aimed, boolean[][] meets) {
        TreeSet<Integer> hits = new TreeSet<>(aimed);
        for (int p : aimed) {
            for (int q = 0; q < meets.length; q++) {
                if (meets[p][q]) {
                    hits.add(q);
                }
            }
        }
        return hits;
    }

    private long worthOf(TreeSet<Integer> set) {
        long sum = 0;
        for (int p : set) {
            sum += worths[pieces.get(p).kind];
        }
        return sum;
    }

    int blown(int piece) {
        return piece < 0 || piece >= found.length ? -1 : found[piece];
    }

    long worth() {
        return foundWorth;
    }

    int fires(int jet, int k, int end) {
        TreeSet<Integer> ticks = new TreeSet<>();
        for (int p = 0; p < found.length; p++) {
            if (found[p] == 2 && pieces.get(p).has(jet)) {
                ticks.addAll(foundBlows.get(p));
            }
        }
        int span = 0;
        for (int t : ticks) {
            boolean isEnd = !ticks.contains(end == 0 ? t - 1 : t + 1);
            if (isEnd && span == k && (end == 0 || end == 1)) {
                return t;
            }
            span += isEnd ? 1 : 0;
        }
        return -1;
    }

    boolean strength(int from, int to, int v) {
        if (strengths.size() == 6 || from < 0 || to > 1000 || from > to || v < 1 || v > 100) {
            return false;
        }
        strengths.add(new int[] {from, to, v});
        return true;
    }

    long air() {
        return foundAir;
    }

    boolean seen(int piece, boolean blown) {
        if (piece < 0 || piece >= told.length || told[piece] != null) {
            return false;
        }
        told[piece] = blown;
        return true;
    }

    int stuck(int k) {
        List<Integer> stuck = new ArrayList<>();
        for (int jet = 0; jet < jets; jet++) {
            int blown = 0;
            int not = 0;
            for (int p = 0; p < found.length; p++) {
                if (found[p] == 2 && pieces.get(p).has(jet) && told[p] != null) {
                    blown += told[p] ? 1 : 0;
                    not += told[p] ? 0 : 1;
                }
            }
            if (not > blown) {
                stuck.add(jet);
            }
        }
        return k < 0 || k >= stuck.size() ? -1 : stuck.get(k);
    }

    int pieceCount() {
        return pieces.size();
    }
}
