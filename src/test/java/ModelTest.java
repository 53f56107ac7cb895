/**
 * Long mixed runs of calls, each answer compared with the model's: promises 1 to 18 together. The
 * runs are always the same ones.
 */
public final class ModelTest {
    private static final int RUNS = 400;
    private static final int CALLS = 512;
    private static final long[] ODD = {
        -1, 0, 1, 2, 4, 8, 9, 12, 13, 16, 17, 31, 32, 33, 100, 101, 1000, 1001, 10000, 10001, -10000,
        -10001, 20000, 20001, 100000, 100001, 1000000, 1000001, -1000000, -1000001,
        Integer.MIN_VALUE, Integer.MAX_VALUE, 1L << 32, Long.MIN_VALUE, Long.MAX_VALUE
    };

    private final int run;
    private final JetTiming x;
    private final Model model;
    private final int jets;
    /** How far ticks lie apart: close, so that large groups stand, or far. */
    private final int spread;
    private long state;
    private long rowTick;
    private long markTick;

    private ModelTest(int run) {
        this.run = run;
        this.state = run * 7919L + 17;
        int told = of(12) == 0 ? (int) odd() : 1 + of(of(2) == 0 ? 4 : 16);
        this.x = new JetTiming(told);
        this.model = new Model(told);
        this.jets = told >= 1 && told <= 16 ? told : 1;
        this.spread = new int[] {12, 60, 400, 20000}[of(4)];
    }

    public static void main(String[] args) {
        for (int run = 0; run < RUNS && Check.allRight(); run++) {
            new ModelTest(run).calls();
        }
        Check.end("ModelTest");
    }

    private int of(int count) {
        state = state * 6364136223846793005L + 1442695040888963407L;
        return (int) ((state >>> 33) % count);
    }

    private long odd() {
        return ODD[of(ODD.length)];
    }

    /** A number of least .. most; now and then an odd one. */
    private long any(long least, long most) {
        return of(40) == 0 ? odd() : least + of((int) (most - least + 1));
    }

    private int small(int least, int most) {
        return (int) any(least, most);
    }

    private void calls() {
        setUp();
        int made = 0;
        while (made < CALLS - 30 && Check.allRight()) {
            int what = of(20);
            if (what < 8) {
                tell(what);
            } else if (what < 10) {
                runs();
                made += 3;
            } else {
                ask(what);
            }
            made++;
        }
    }

    private void setUp() {
        if (of(4) != 0) {
            rowTick = 1;
            same("speed(0, ..)", x.speed(0, 3), model.speed(0, 3));
        }
        for (int kind = 0; kind < 4; kind++) {
            wanted(kind);
        }
        int lag = new int[] {3, 30, 100}[of(3)];
        int open = of(lag + 1);
        int close = of(lag + 1);
        same("lag", x.lag(open, close), model.lag(open, close));
        int pieces = of(13);
        for (int p = 0; p < pieces; p++) {
            piece();
        }
    }

    private void tell(int what) {
        switch (what) {
            case 0: row(); break;
            case 1: slip(); break;
            case 2: distance(); break;
            case 3: lag(); break;
            case 4: wanted(small(0, 3)); break;
            case 5: strength(); break;
            default: piece(); break;
        }
    }

    private void row() {
        long tick = of(8) == 0 ? any(0, 20000) : rowTick + of(spread);
        int steps = of(3) == 0 ? small(0, 1000) : of(4);
        String call = "speed(" + tick + ", " + steps + ")";
        boolean due = model.speed(tick, steps);
        rowTick = due ? tick + 1 : rowTick;
        same(call, x.speed(tick, steps), due);
    }

    private void slip() {
        long tick = of(8) == 0 ? any(0, 20000) : markTick + of(spread);
        long steps = of(3) == 0 ? any(-10000, 10000) : of(61) - 30;
        String call = "mark(" + tick + ", " + steps + ")";
        boolean due = model.mark(tick, steps);
        markTick = due ? tick + 1 : markTick;
        same(call, x.mark(tick, steps), due);
    }

    private void distance() {
        int steps = of(6) == 0 ? small(0, 100000) : small(0, 200);
        same("distance(" + steps + ")", x.distance(steps), model.distance(steps));
    }

    private void lag() {
        int most = of(2) == 0 ? 100 : 5;
        int open = small(0, most);
        int close = small(0, most);
        same("lag(" + open + ", " + close + ")", x.lag(open, close), model.lag(open, close));
    }

    private void wanted(int kind) {
        long worth = of(5) == 0 ? any(-1000000, 1000000) : of(9) - 3;
        same("wanted(" + kind + ", " + worth + ")", x.wanted(kind, worth), model.wanted(kind, worth));
    }

    private void strength() {
        int from = small(0, 100);
        int to = of(3) == 0 ? small(0, 1000) : from + of(50);
        int v = small(1, 100);
        same("strength(" + from + ", " + to + ", " + v + ")", x.strength(from, to, v),
                model.strength(from, to, v));
    }

    private void piece() {
        long tick = of(10) == 0 ? any(0, 20000) : any(0, spread);
        int first = small(0, jets - 1);
        int width = of(3) == 0 ? small(1, jets + 1) : 1 + of(2);
        long length = of(4) == 0 ? any(0, 1000) : any(0, 60);
        int kind = small(0, 3);
        same("piece(" + tick + ", " + first + ", " + width + ", " + length + ", " + kind + ")",
                x.piece(tick, first, width, length, kind), model.piece(tick, first, width, length, kind));
    }

    private void runs() {
        same("run()", x.run(), model.run());
        same("worth()", x.worth(), model.worth());
        same("air()", x.air(), model.air());
    }

    private void ask(int what) {
        int p = small(-1, model.pieceCount());
        switch (what) {
            case 10: middle(p); break;
            case 11: meet(p); break;
            case 12: place(); break;
            case 13: worthAndAir(); break;
            case 14: stuck(); break;
            case 15: case 16: seen(p); break;
            case 17: same("blown(" + p + ")", x.blown(p), model.blown(p)); break;
            default: fires(); break;
        }
    }

    private void middle(int p) {
        same("middle(" + p + ")", x.middle(p), model.middle(p));
    }

    private void meet(int p) {
        int q = small(-1, model.pieceCount());
        same("meet(" + p + ", " + q + ")", x.meet(p, q), model.meet(p, q));
    }

    private void place() {
        long tick = of(2) == 0 ? any(0, 20000) : any(-1, spread);
        same("at(" + tick + ")", x.at(tick), model.at(tick));
    }

    private void worthAndAir() {
        same("worth()", x.worth(), model.worth());
        same("air()", x.air(), model.air());
    }

    private void stuck() {
        int k = small(-1, 2);
        same("stuck(" + k + ")", x.stuck(k), model.stuck(k));
    }

    private void seen(int p) {
        boolean blown = of(2) == 0;
        same("seen(" + p + ", " + blown + ")", x.seen(p, blown), model.seen(p, blown));
    }

    private void fires() {
        int jet = small(0, jets - 1);
        int k = small(-1, 2);
        int end = small(0, 1);
        same("fires(" + jet + ", " + k + ", " + end + ")", x.fires(jet, k, end), model.fires(jet, k, end));
    }

    private void same(String call, long got, long want) {
        Check.due("model run " + run + ": " + call, got, want);
    }

    private void same(String call, boolean got, boolean want) {
        same(call, got ? 1 : 0, want ? 1 : 0);
    }
}
