import java.util.TreeSet;
import java.util.function.LongPredicate;

/**
 * Asks of an argument, over the whole range of its type, whether it is taken just when it lies
 * within least .. most. When least is behind most, none must be taken.
 */
final class Ranges {
    private static final long[] TURNS = {1L << 8, 1L << 16, 1L << 31, 1L << 32, 1L << 62};

    private Ranges() {
    }

    static void ints(String argument, long least, long most, LongPredicate isTaken) {
        check(argument, least, most, Integer.MIN_VALUE, Integer.MAX_VALUE, isTaken);
    }

    static void longs(String argument, long least, long most, LongPredicate isTaken) {
        check(argument, least, most, Long.MIN_VALUE, Long.MAX_VALUE, isTaken);
    }

    private static void check(String argument, long least, long most, long typeLeast, long typeMost,
            LongPredicate isTaken) {
        for (long value : values(least, most, typeLeast, typeMost)) {
            boolean due = value >= least && value <= most;
            Check.due(argument + " " + value + " is taken", isTaken.test(value), due);
        }
    }

    /** Both ends and what lies beside them, the type's ends, and what a shorter type would cut down to these. */
    private static TreeSet<Long> values(long least, long most, long typeLeast, long typeMost) {
        TreeSet<Long> values = new TreeSet<>();
        for (long end : new long[] {least, most, 0, (least + most) / 2}) {
            for (long near = -2; near <= 2; near++) {
                values.add(end + near);
                for (long turn : TURNS) {
                    values.add(end + near + turn);
                    values.add(end + near - turn);
                }
                // Wraps around on purpose: the same low bits at both ends of the type.
                values.add(typeLeast + end + near);
                values.add(typeMost + end + near);
            }
        }
        values.add(-least);
        values.add(-most);
        values.removeIf(value -> value < typeLeast || value > typeMost);
        return values;
    }
}
