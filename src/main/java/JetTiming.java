/**
 * Air jets over a belt: pieces are seen by a head and blown by jets further on; which pieces are
 * worth blowing, when each jet fires for them, how much air that takes, and which jets seem stuck.
 */
public final class JetTiming {
    public static final int NONE = -1;

    private static final int LAST_TICK = 20000;
    private static final int MOST_JETS = 16;
    private static final int MOST_PIECES = 12;
    private static final int MOST_ROWS = 8;
    private static final int MOST_STRENGTHS = 6;
    private static final int MOST_SPEED = 1000;
    private static final int MOST_SLIP = 10000;
    private static final int MOST_DISTANCE = 100000;
    private static final int MOST_LAG = 100;
    private static final int MOST_LENGTH = 1000;
    private static final int MOST_STRENGTH = 100;
    private static final int MOST_WORTH = 1000000;
    private static final int KINDS = 4;
    private static final int MOST_TRIED_OUT = 8;

    private final int jets;
    private final Belt belt;
    private final Pieces pieces;
    private final Strengths strengths;
    private final Plan plan;
    private final long[] worths;
    private int headToJets;
    private int opening;
    private int closing;

    public JetTiming(int jets) {
        this.jets = isWithin(jets, 1, MOST_JETS) ? jets : 1;
        this.belt = new Belt();
        this.pieces = new Pieces();
        this.strengths = new Strengths();
        this.plan = new Plan(this.pieces);
        this.worths = new long[KINDS];
    }

    public boolean speed(long tick, int steps) {
        return isWithin(steps, 0, MOST_SPEED) && belt.speeds.add(tick, steps);
    }

    public boolean mark(long tick, long steps) {
        return isWithin(steps, -MOST_SLIP, MOST_SLIP) && belt.marks.add(tick, steps);
    }

    public long at(long tick) {
        return isTick(tick) ? belt.placeAt(tick) : 0;
    }

    public boolean distance(int steps) {
        if (!isWithin(steps, 0, MOST_DISTANCE)) {
            return false;
        }
        headToJets = steps;
        return true;
    }

    public boolean lag(int open, int close) {
        if (!isWithin(open, 0, MOST_LAG) || !isWithin(close, 0, MOST_LAG)) {
            return false;
        }
        opening = open;
        closing = close;
        return true;
    }

    public int piece(long tick, int first, int width, long length, int kind) {
        if (!isTick(tick) || !isWithin(length, 0, MOST_LENGTH) || !isKind(kind)) {
            return NONE;
        }
        // No sum of first and width, which could wrap around.
        if (!isWithin(first, 0, jets - 1) || !isWithin(width, 1, jets - first)) {
            return NONE;
        }
        return pieces.add((int) tick, first, width, (int) length, kind);
    }

    public boolean wanted(int kind, long worth) {
        if (!isKind(kind) || !isWithin(worth, -MOST_WORTH, MOST_WORTH)) {
            return false;
        }
        worths[kind] = worth;
        return true;
    }

    public int middle(int piece) {
        return pieces.has(piece) ? middleOf(piece) : NONE;
    }

    public boolean meet(int a, int b) {
        if (a == b || !pieces.has(a) || !pieces.has(b) || !pieces.shareJet(a, b)) {
            return false;
        }
        int one = middleOf(a);
        int other = middleOf(b);
        return one != NONE && other != NONE
                && blowFirst(one) <= blowLast(other) && blowFirst(other) <= blowLast(one);
    }

    public int run() {
        plan.begin();
        for (int p = 0; p < pieces.count; p++) {
            int middle = middleOf(p);
            if (middle != NONE) {
                plan.setBlow(p, blowFirst(middle), blowLast(middle));
            }
            plan.values[p] = worths[pieces.kinds[p]];
        }
        plan.findMeetings();
        plan.aimAtGroups();
        plan.countAir(strengths);
        return Integer.bitCount(plan.hit);
    }

    public int blown(int piece) {
        return plan.has(piece) ? plan.stateOf(piece) : NONE;
    }

    public long worth() {
        return plan.valueOf(plan.hit);
    }

    public int fires(int jet, int k, int end) {
        if (!isWithin(jet, 0, jets - 1) || k < 0 || !isWithin(end, 0, 1)) {
            return NONE;
        }
        return plan.spanTick(jet, k, end == 1);
    }

    public boolean strength(int from, int to, int v) {
        if (from < 0 || from > to || to > MOST_LENGTH || !isWithin(v, 1, MOST_STRENGTH)) {
            return false;
        }
        return strengths.add(from, to, v);
    }

    public long air() {
        return plan.airUsed;
    }

    public boolean seen(int piece, boolean blown) {
        return plan.has(piece) && plan.tell(piece, blown);
    }

    public int stuck(int k) {
        int before = 0;
        for (int jet = 0; jet < jets; jet++) {
            if (plan.seemsStuck(jet)) {
                if (before == k) {
                    return jet;
                }
                before++;
            }
        }
        return NONE;
    }

    private int middleOf(int p) {
        int tick = pieces.ticks[p];
        long target = belt.placeAt(tick) + headToJets + pieces.lengths[p] / 2;
        return belt.firstTickAt(tick, target);
    }

    private int blowFirst(int middle) {
        return Math.max(0, middle - opening);
    }

    private int blowLast(int middle) {
        return middle + closing;
    }

    private static boolean isWithin(long x, long least, long most) {
        return x >= least && x <= most;
    }

    private static boolean isTick(long tick) {
        return isWithin(tick, 0, LAST_TICK);
    }

    private static boolean isKind(int kind) {
        return isWithin(kind, 0, KINDS - 1);
    }

    /** Steps told at ticks, each tick later than the one before. */
    private static final class Rows {
        final long[] ticks = new long[MOST_ROWS];
        final long[] steps = new long[MOST_ROWS];
        int count;

        boolean add(long tick, long told) {
            if (count >= MOST_ROWS || !isTick(tick)) {
                return false;
            }
            if (count > 0 && tick <= ticks[count - 1]) {
                return false;
            }
            ticks[count] = tick;
            steps[count] = told;
            count++;
            return true;
        }

        int lastNotBehind(long tick) {
            int found = NONE;
            for (int i = 0; i < count; i++) {
                if (ticks[i] <= tick) {
                    found = i;
                }
            }
            return found;
        }

        /** The first row's tick behind a tick, or the tick behind all ticks. */
        long nextTick(long tick) {
            int next = lastNotBehind(tick) + 1;
            return next < count ? ticks[next] : LAST_TICK + 1;
        }
    }

    /** The belt's place, by rows of speed and by marks. */
    private static final class Belt {
        final Rows speeds = new Rows();
        final Rows marks = new Rows();

        long placeAt(long tick) {
            return went(tick) + slip(tick);
        }

        private long went(long tick) {
            long sum = 0;
            for (int i = 0; i < speeds.count; i++) {
                long from = speeds.ticks[i];
                long to = i + 1 < speeds.count ? Math.min(tick, speeds.ticks[i + 1]) : tick;
                if (from < to) {
                    sum += speeds.steps[i] * (to - from);
                }
            }
            return sum;
        }

        private long slip(long tick) {
            int i = marks.lastNotBehind(tick);
            if (i < 0) {
                return 0;
            }
            if (i + 1 >= marks.count) {
                return marks.steps[i];
            }
            long ticks = marks.ticks[i + 1] - marks.ticks[i];
            if (ticks <= 0) {
                return marks.steps[i];
            }
            long rise = marks.steps[i + 1] - marks.steps[i];
            return marks.steps[i] + Math.floorDiv(rise * (tick - marks.ticks[i]), ticks);
        }

        /** The least tick, from one on, at which the place is at least a target, or NONE. */
        int firstTickAt(int from, long target) {
            long start = from;
            for (int i = 0; i <= 2 * MOST_ROWS && start <= LAST_TICK; i++) {
                long next = Math.min(speeds.nextTick(start), marks.nextTick(start));
                if (placeAt(start) >= target) {
                    return (int) start;
                }
                if (placeAt(next - 1) >= target) {
                    return (int) firstBetween(start, next - 1, target);
                }
                start = next;
            }
            return NONE;
        }

        /**
         * Between two rows the place only rises or only falls, so halving finds the tick: the
         * target is not reached at low, and is reached at high.
         */
        private long firstBetween(long low, long high, long target) {
            long before = low;
            long reached = high;
            for (int i = 0; i < 32 && reached - before > 1; i++) {
                long half = (before + reached) / 2;
                if (placeAt(half) >= target) {
                    reached = half;
                } else {
                    before = half;
                }
            }
            return reached;
        }
    }

    /** The pieces as they were told; a piece's jets are the bits of a mask. */
    private static final class Pieces {
        final int[] ticks = new int[MOST_PIECES];
        final int[] masks = new int[MOST_PIECES];
        final int[] lengths = new int[MOST_PIECES];
        final int[] kinds = new int[MOST_PIECES];
        int count;

        int add(int tick, int first, int width, int length, int kind) {
            if (count >= MOST_PIECES) {
                return NONE;
            }
            ticks[count] = tick;
            masks[count] = ((1 << width) - 1) << first;
            lengths[count] = length;
            kinds[count] = kind;
            count++;
            return count - 1;
        }

        boolean has(int p) {
            return p >= 0 && p < count;
        }

        boolean hasJet(int p, int jet) {
            return (masks[p] >> jet & 1) == 1;
        }

        boolean shareJet(int p, int q) {
            return (masks[p] & masks[q]) != 0;
        }
    }

    /** Strengths by lengths; the row told last counts. */
    private static final class Strengths {
        final int[] froms = new int[MOST_STRENGTHS];
        final int[] tos = new int[MOST_STRENGTHS];
        final int[] values = new int[MOST_STRENGTHS];
        int count;

        boolean add(int from, int to, int value) {
            if (count >= MOST_STRENGTHS) {
                return false;
            }
            froms[count] = from;
            tos[count] = to;
            values[count] = value;
            count++;
            return true;
        }

        int of(int length) {
            int found = 1;
            for (int i = 0; i < count; i++) {
                if (froms[i] <= length && length <= tos[i]) {
                    found = values[i];
                }
            }
            return found;
        }
    }

    /**
     * What run() found, and what was seen since. It keeps blows, worths and air of its own, as
     * what is told later must not change them. Sets of pieces are masks, bit p for piece p.
     */
    private static final class Plan {
        final Pieces pieces;
        final int[] firsts = new int[MOST_PIECES];
        final int[] lasts = new int[MOST_PIECES];
        final long[] values = new long[MOST_PIECES];
        /** For each piece all that are hit when it is aimed at; empty when it has no blow. */
        final int[] hits = new int[MOST_PIECES];
        /** The pieces that are aimed at, by the first ticks of their blows. */
        final int[] order = new int[MOST_PIECES];
        int ordered;
        int count;
        int aimed;
        int hit;
        int told;
        int toldBlown;
        long airUsed;

        Plan(Pieces pieces) {
            this.pieces = pieces;
        }

        void begin() {
            count = pieces.count;
            ordered = 0;
            aimed = 0;
            hit = 0;
            told = 0;
            toldBlown = 0;
            airUsed = 0;
            for (int p = 0; p < MOST_PIECES; p++) {
                hits[p] = 0;
            }
        }

        void setBlow(int p, int first, int last) {
            firsts[p] = first;
            lasts[p] = last;
            hits[p] = 1 << p;
        }

        void findMeetings() {
            for (int p = 0; p < count; p++) {
                for (int q = 0; q < p; q++) {
                    if (areMeeting(p, q)) {
                        hits[p] |= 1 << q;
                        hits[q] |= 1 << p;
                    }
                }
            }
        }

        private boolean areMeeting(int p, int q) {
            return hits[p] != 0 && hits[q] != 0 && pieces.shareJet(p, q)
                    && firsts[p] <= lasts[q] && firsts[q] <= lasts[p];
        }

        void aimAtGroups() {
            int done = 0;
            for (int p = 0; p < count; p++) {
                if (hits[p] != 0 && !isIn(done, p)) {
                    int group = groupOf(p);
                    done |= group;
                    aimed |= bestOf(group);
                }
            }
            hit = hitBy(aimed);
            putInOrder();
        }

        private int groupOf(int p) {
            int group = hits[p];
            for (int i = 0; i < MOST_PIECES; i++) {
                group |= hitBy(group);
            }
            return group;
        }

        private int bestOf(int group) {
            int size = Integer.bitCount(group);
            return size > MOST_TRIED_OUT ? worthwhileOf(group) : bestTriedOut(group, 1 << size);
        }

        private int worthwhileOf(int group) {
            int set = 0;
            for (int p = 0; p < count; p++) {
                if (isIn(group, p) && values[p] > 0) {
                    set |= 1 << p;
                }
            }
            return set;
        }

        private int bestTriedOut(int group, int sets) {
            int best = 0;
            long most = 0;
            int set = 0;
            for (int i = 1; i < sets; i++) {
                // The group's next set by its sum of 2^p, so that of equals the first one stays.
                set = (set - group) & group;
                long value = valueOf(hitBy(set));
                if (value > most
                        || value == most && Integer.bitCount(set) < Integer.bitCount(best)) {
                    best = set;
                    most = value;
                }
            }
            return best;
        }

        private int hitBy(int set) {
            int all = 0;
            for (int p = 0; p < count; p++) {
                if (isIn(set, p)) {
                    all |= hits[p];
                }
            }
            return all;
        }

        long valueOf(int set) {
            long sum = 0;
            for (int p = 0; p < count; p++) {
                if (isIn(set, p)) {
                    sum += values[p];
                }
            }
            return sum;
        }

        private void putInOrder() {
            for (int p = 0; p < count; p++) {
                if (isIn(aimed, p)) {
                    int place = ordered;
                    for (int i = ordered; i > 0 && firsts[order[i - 1]] > firsts[p]; i--) {
                        order[i] = order[i - 1];
                        place = i - 1;
                    }
                    order[place] = p;
                    ordered++;
                }
            }
        }

        void countAir(Strengths strengths) {
            for (int i = 0; i < ordered; i++) {
                int p = order[i];
                long ticks = lasts[p] - firsts[p] + 1;
                airUsed += strengths.of(pieces.lengths[p]) * Integer.bitCount(pieces.masks[p]) * ticks;
            }
        }

        boolean has(int p) {
            return p >= 0 && p < count;
        }

        int stateOf(int p) {
            if (isIn(aimed, p)) {
                return 2;
            }
            return isIn(hit, p) ? 1 : 0;
        }

        /** The first or last tick of a jet's k-th span, or NONE. */
        int spanTick(int jet, int k, boolean wantsLast) {
            int span = NONE;
            int first = NONE;
            int last = NONE;
            for (int i = 0; i < ordered; i++) {
                int p = order[i];
                if (!pieces.hasJet(p, jet)) {
                    continue;
                }
                if (span >= 0 && firsts[p] <= last + 1) {
                    last = Math.max(last, lasts[p]);
                } else if (span < k) {
                    span++;
                    first = firsts[p];
                    last = lasts[p];
                } else {
                    break;
                }
            }
            if (span != k) {
                return NONE;
            }
            return wantsLast ? last : first;
        }

        boolean tell(int p, boolean blown) {
            if (isIn(told, p)) {
                return false;
            }
            told |= 1 << p;
            if (blown) {
                toldBlown |= 1 << p;
            }
            return true;
        }

        boolean seemsStuck(int jet) {
            int more = 0;
            for (int i = 0; i < ordered; i++) {
                int p = order[i];
                if (pieces.hasJet(p, jet) && isIn(told, p)) {
                    more += isIn(toldBlown, p) ? -1 : 1;
                }
            }
            return more > 0;
        }

        private static boolean isIn(int set, int p) {
            return (set >> p & 1) == 1;
        }
    }
}
