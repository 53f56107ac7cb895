import java.util.LinkedHashMap;
import java.util.Map;
import java.util.function.Predicate;

/**
 * "A call that is refused changes nothing": behind each refused call, in each state, an object
 * answers all that one of the same state answers which never got that call, now, behind a run(),
 * and when more is told.
 */
public final class RefusedTest {
    private static final int LEAST = Integer.MIN_VALUE;
    private static final int MOST = Integer.MAX_VALUE;

    /** By what it is called, a call that answers true when it was refused. */
    private static final Map<String, Predicate<JetTiming>> ALWAYS = new LinkedHashMap<>();
    private static final Map<String, Predicate<JetTiming>> WHEN_TOLD = new LinkedHashMap<>();
    private static final Map<String, Predicate<JetTiming>> WHEN_FULL = new LinkedHashMap<>();
    private static final Map<String, Predicate<JetTiming>> NOTHING_FOUND = new LinkedHashMap<>();
    private static final Map<String, Predicate<JetTiming>> WHEN_SEEN = new LinkedHashMap<>();
    private static final Map<String, Predicate<JetTiming>> CAME_LATER = new LinkedHashMap<>();

    public static void main(String[] args) {
        rowsAndMarks();
        settings();
        pieces();
        strengths();
        seen();
        statesDiffer();
        for (String state : States.NAMES) {
            all(state, ALWAYS);
            if (!States.isNew(state)) {
                all(state, WHEN_TOLD);
            }
            if (States.isFull(state)) {
                all(state, WHEN_FULL);
            }
            if (!States.hasFound(state)) {
                all(state, NOTHING_FOUND);
            }
            if (States.hasSeen(state)) {
                all(state, WHEN_SEEN);
            }
            if (state.equals("run, and more told")) {
                all(state, CAME_LATER);
            }
        }
        Check.end("RefusedTest");
    }

    private static void rowsAndMarks() {
        for (long tick : new long[] {-1, 20001, 1L << 32, (1L << 32) + 150, Long.MIN_VALUE, Long.MAX_VALUE}) {
            ALWAYS.put("speed(" + tick + ", 9)", x -> !x.speed(tick, 9));
            ALWAYS.put("mark(" + tick + ", 9)", x -> !x.mark(tick, 9));
        }
        for (int steps : new int[] {-1, 1001, LEAST, MOST}) {
            ALWAYS.put("speed(150, " + steps + ")", x -> !x.speed(150, steps));
        }
        for (long steps : new long[] {-10001, 10001, LEAST, MOST, (1L << 32) + 5, Long.MIN_VALUE, Long.MAX_VALUE}) {
            ALWAYS.put("mark(150, " + steps + ")", x -> !x.mark(150, steps));
        }
        // The last row is at 60 or 100, the last mark at 65, 100 or 101.
        for (long tick : new long[] {0, 1, 10, 55, 59, 60}) {
            WHEN_TOLD.put("speed(" + tick + ", 9)", x -> !x.speed(tick, 9));
            WHEN_TOLD.put("mark(" + tick + ", 9)", x -> !x.mark(tick, 9));
        }
        WHEN_TOLD.put("mark(65, -9)", x -> !x.mark(65, -9));
        WHEN_FULL.put("speed(100, 9)", x -> !x.speed(100, 9));
        WHEN_FULL.put("speed(101, 9)", x -> !x.speed(101, 9));
        WHEN_FULL.put("speed(20000, 1000)", x -> !x.speed(20000, 1000));
        WHEN_FULL.put("mark(101, -9)", x -> !x.mark(101, -9));
        WHEN_FULL.put("mark(20000, 10000)", x -> !x.mark(20000, 10000));
    }

    private static void settings() {
        for (int steps : new int[] {-1, 100001, LEAST, MOST}) {
            ALWAYS.put("distance(" + steps + ")", x -> !x.distance(steps));
        }
        for (int ticks : new int[] {-1, 101, LEAST, MOST}) {
            ALWAYS.put("lag(" + ticks + ", 50)", x -> !x.lag(ticks, 50));
            ALWAYS.put("lag(50, " + ticks + ")", x -> !x.lag(50, ticks));
            ALWAYS.put("lag(" + ticks + ", " + ticks + ")", x -> !x.lag(ticks, ticks));
        }
        for (int kind : new int[] {-1, 4, 5, 7, 256, LEAST, MOST}) {
            ALWAYS.put("wanted(" + kind + ", 333)", x -> !x.wanted(kind, 333));
        }
        for (long worth : new long[] {-1000001, 1000001, (1L << 32) + 333, Long.MIN_VALUE, Long.MAX_VALUE}) {
            for (int kind = 0; kind < 4; kind++) {
                int of = kind;
                ALWAYS.put("wanted(" + kind + ", " + worth + ")", x -> !x.wanted(of, worth));
            }
        }
    }

    private static void pieces() {
        for (long tick : new long[] {-1, 20001, (1L << 32) + 50, Long.MIN_VALUE, Long.MAX_VALUE}) {
            ALWAYS.put("piece(" + tick + ", 0, 6, 5, 0)", x -> x.piece(tick, 0, 6, 5, 0) == -1);
        }
        int[][] jets = {{-1, 1}, {-1, 2}, {6, 1}, {6, 0}, {0, 0}, {0, -1}, {0, 7}, {3, 4}, {5, 2}, {1, MOST},
            {MOST, 1}, {MOST, MOST}, {LEAST, LEAST}, {LEAST, MOST}, {0, LEAST}};
        for (int[] pair : jets) {
            ALWAYS.put("piece(50, " + pair[0] + ", " + pair[1] + ", 5, 0)",
                    x -> x.piece(50, pair[0], pair[1], 5, 0) == -1);
        }
        for (long length : new long[] {-1, 1001, (1L << 32) + 5, Long.MIN_VALUE, Long.MAX_VALUE}) {
            ALWAYS.put("piece(50, 0, 6, " + length + ", 0)", x -> x.piece(50, 0, 6, length, 0) == -1);
        }
        for (int kind : new int[] {-1, 4, 256, LEAST, MOST}) {
            ALWAYS.put("piece(50, 0, 6, 5, " + kind + ")", x -> x.piece(50, 0, 6, 5, kind) == -1);
        }
        WHEN_FULL.put("piece(50, 0, 6, 5, 0)", x -> x.piece(50, 0, 6, 5, 0) == -1);
        WHEN_FULL.put("piece(0, 0, 1, 0, 2)", x -> x.piece(0, 0, 1, 0, 2) == -1);
    }

    private static void strengths() {
        int[][] rows = {{-1, 1000, 9}, {0, 1001, 9}, {20, 19, 9}, {1000, 0, 9}, {0, 1000, 0}, {0, 1000, -1},
            {0, 1000, 101}, {LEAST, MOST, 9}, {MOST, LEAST, 9}, {0, MOST, 9}, {LEAST, 1000, 9}, {0, 1000, LEAST},
            {0, 1000, MOST}, {1001, 1001, 9}, {-1, -1, 9}};
        for (int[] row : rows) {
            ALWAYS.put("strength(" + row[0] + ", " + row[1] + ", " + row[2] + ")",
                    x -> !x.strength(row[0], row[1], row[2]));
        }
        WHEN_FULL.put("strength(0, 1000, 99)", x -> !x.strength(0, 1000, 99));
        WHEN_FULL.put("strength(0, 0, 1)", x -> !x.strength(0, 0, 1));
    }

    private static void seen() {
        for (int piece : new int[] {-1, 12, 13, 31, 32, 64, LEAST, MOST}) {
            ALWAYS.put("seen(" + piece + ", false)", x -> !x.seen(piece, false));
            ALWAYS.put("seen(" + piece + ", true)", x -> !x.seen(piece, true));
        }
        for (int piece = 0; piece < 12; piece++) {
            int of = piece;
            NOTHING_FOUND.put("seen(" + piece + ", false)", x -> !x.seen(of, false));
            NOTHING_FOUND.put("seen(" + piece + ", true)", x -> !x.seen(of, true));
        }
        CAME_LATER.put("seen(11, false)", x -> !x.seen(11, false));
        CAME_LATER.put("seen(11, true)", x -> !x.seen(11, true));
        for (int piece : new int[] {0, 1, 2, 3, 9}) {
            WHEN_SEEN.put("seen(" + piece + ", false)", x -> !x.seen(piece, false));
            WHEN_SEEN.put("seen(" + piece + ", true)", x -> !x.seen(piece, true));
        }
    }

    /** Without this the test would see no change where there is nothing to be seen. */
    private static void statesDiffer() {
        for (String one : States.NAMES) {
            for (String other : States.NAMES) {
                boolean alike = one.equals(other) || States.isNew(one) && States.isNew(other);
                Check.due("the states " + one + " and " + other + " differ",
                        Answers.of(States.make(one)).differFrom(Answers.of(States.make(other))), !alike);
            }
        }
    }

    private static void all(String state, Map<String, Predicate<JetTiming>> calls) {
        for (Map.Entry<String, Predicate<JetTiming>> call : calls.entrySet()) {
            String when = state + ", behind " + call.getKey();
            now(when, afterCall(when, state, call.getValue()), States.make(state));
            behindRun(when, afterCall(when, state, call.getValue()), States.make(state));
            whenMoreIsTold(when, afterCall(when, state, call.getValue()), States.make(state));
        }
    }

    private static JetTiming afterCall(String when, String state, Predicate<JetTiming> call) {
        JetTiming x = States.make(state);
        Check.due(when + ": it was refused", call.test(x), true);
        return x;
    }

    private static void now(String when, JetTiming x, JetTiming twin) {
        Answers.of(x).due(when, Answers.of(twin));
        for (int p = 0; p <= 12; p++) {
            Check.due(when + ": seen(" + p + ", ..)", x.seen(p, p % 3 == 0), twin.seen(p, p % 3 == 0));
        }
        Answers.foundBy(x).due(when + ", all seen", Answers.foundBy(twin));
    }

    private static void behindRun(String when, JetTiming x, JetTiming twin) {
        Check.due(when + ": run()", x.run(), twin.run());
        Answers.of(x).due(when + " and run()", Answers.of(twin));
    }

    private static void whenMoreIsTold(String when, JetTiming x, JetTiming twin) {
        Check.due(when + ": speed(150, 4)", x.speed(150, 4), twin.speed(150, 4));
        Check.due(when + ": mark(151, 77)", x.mark(151, 77), twin.mark(151, 77));
        Check.due(when + ": strength(0, 9, 50)", x.strength(0, 9, 50), twin.strength(0, 9, 50));
        Check.due(when + ": piece(70, 1, 3, 7, 0)", x.piece(70, 1, 3, 7, 0), twin.piece(70, 1, 3, 7, 0));
        Check.due(when + ": run()", x.run(), twin.run());
        Answers.of(x).due(when + ", more told and run()", Answers.of(twin));
    }
}
