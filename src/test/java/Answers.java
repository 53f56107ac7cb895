import java.util.ArrayList;
import java.util.List;

/** All that an object answers without being changed by it, so that two objects can be compared. */
final class Answers {
    private static final int[] TICKS = {0, 1, 9, 10, 11, 49, 50, 51, 99, 100, 101, 500, 5000, 19999, 20000};
    private static final int JETS = 6;
    private static final int SPANS = 4;

    private final List<String> calls = new ArrayList<>();
    private final List<Long> answers = new ArrayList<>();

    private Answers() {
    }

    /** What the object holds: some 160 calls. */
    static Answers of(JetTiming x) {
        Answers all = new Answers();
        all.asThingsAre(x);
        all.found(x);
        return all;
    }

    /** Only what run() found: some 80 calls. */
    static Answers foundBy(JetTiming x) {
        Answers all = new Answers();
        all.found(x);
        return all;
    }

    private void add(String call, long answer) {
        calls.add(call);
        answers.add(answer);
    }

    private void asThingsAre(JetTiming x) {
        for (int tick : TICKS) {
            add("at(" + tick + ")", x.at(tick));
        }
        for (int p = 0; p <= 12; p++) {
            add("middle(" + p + ")", x.middle(p));
            for (int q = 0; q < p && p < 12; q++) {
                add("meet(" + p + ", " + q + ")", x.meet(p, q) ? 1 : 0);
            }
        }
    }

    private void found(JetTiming x) {
        add("worth()", x.worth());
        add("air()", x.air());
        for (int p = 0; p <= 12; p++) {
            add("blown(" + p + ")", x.blown(p));
        }
        for (int jet = 0; jet < JETS; jet++) {
            add("stuck(" + jet + ")", x.stuck(jet));
            for (int k = 0; k < SPANS; k++) {
                add("fires(" + jet + ", " + k + ", 0)", x.fires(jet, k, 0));
                add("fires(" + jet + ", " + k + ", 1)", x.fires(jet, k, 1));
            }
        }
    }

    /** Every answer is the other's. */
    void due(String when, Answers other) {
        Check.due(when + ": count of answers", answers.size(), other.answers.size());
        for (int i = 0; i < answers.size(); i++) {
            Check.due(when + ": " + calls.get(i), answers.get(i), other.answers.get(i));
        }
    }

    boolean differFrom(Answers other) {
        return !answers.equals(other.answers);
    }
}
