import java.util.LinkedHashMap;
import java.util.Map;
import java.util.function.Consumer;

/**
 * Calls before the first run(), and "What run() found stays until the next one": calls behind a
 * run() after more was told, one by one and all together.
 */
public final class StaysTest {
    private static final Map<String, Consumer<JetTiming>> TOLD_LATER = new LinkedHashMap<>();

    public static void main(String[] args) {
        TOLD_LATER.put("speed(70, 900)", x -> Check.due("speed(70, 900)", x.speed(70, 900), true));
        TOLD_LATER.put("mark(70, 95)", x -> Check.due("mark(70, 95)", x.mark(70, 95), true));
        TOLD_LATER.put("distance(60)", x -> Check.due("distance(60)", x.distance(60), true));
        TOLD_LATER.put("lag(4, 4)", x -> Check.due("lag(4, 4)", x.lag(4, 4), true));
        TOLD_LATER.put("lag(3, 5)", x -> Check.due("lag(3, 5)", x.lag(3, 5), true));
        TOLD_LATER.put("wanted(0, 49)", x -> Check.due("wanted(0, 49)", x.wanted(0, 49), true));
        TOLD_LATER.put("wanted(3, -80)", x -> Check.due("wanted(3, -80)", x.wanted(3, -80), true));
        TOLD_LATER.put("strength(0, 1000, 99)",
                x -> Check.due("strength(0, 1000, 99)", x.strength(0, 1000, 99), true));
        TOLD_LATER.put("piece(0, 0, 6, 0, 0)",
                x -> Check.due("piece(0, 0, 6, 0, 0)", x.piece(0, 0, 6, 0, 0), 11));
        TOLD_LATER.put("much", States::tellMore);
        beforeTheFirstRun();
        nothingFoundUntilRun();
        whatIsToldLaterWaitsForRun();
        asThingsAreAtOnce();
        askingChangesNothing();
        runAgainFindsTheSame();
        runForgetsWhatItFoundBefore();
        piecesThatCameLater();
        worthIsAsItWas();
        airIsAsItWas();
        spansAreAsTheyWere();
        seenBehindThatRun();
        seenChangesOnlyStuck();
        stuckSinceRun();
        Check.end("StaysTest");
    }

    /** "nothing was found" (promise 1), though all is told */
    private static void beforeTheFirstRun() {
        for (String state : new String[] {"told", "full"}) {
            JetTiming x = States.make(state);
            for (int p = 0; p <= 12; p++) {
                Check.due(state + ": blown(" + p + ")", x.blown(p), -1);
                Check.due(state + ": seen(" + p + ", true)", x.seen(p, true), false);
                Check.due(state + ": seen(" + p + ", false)", x.seen(p, false), false);
            }
            Check.due(state + ": worth()", x.worth(), 0);
            Check.due(state + ": air()", x.air(), 0);
            for (int jet = 0; jet < 6; jet++) {
                Check.due(state + ": fires(" + jet + ", 0, 0)", x.fires(jet, 0, 0), -1);
                Check.due(state + ": fires(" + jet + ", 0, 1)", x.fires(jet, 0, 1), -1);
                Check.due(state + ": stuck(" + jet + ")", x.stuck(jet), -1);
            }
            Check.due(state + ": middle(0)", x.middle(0), 22);
            Check.due(state + ": meet(0, 1)", x.meet(0, 1), true);
            // What was seen before it does not count behind it.
            x.run();
            Check.due(state + ": stuck(0) behind run()", x.stuck(0), -1);
            Check.due(state + ": seen(0, true) behind run()", x.seen(0, true), true);
        }
    }

    private static void nothingFoundUntilRun() {
        for (Map.Entry<String, Consumer<JetTiming>> later : TOLD_LATER.entrySet()) {
            JetTiming x = States.make("told");
            later.getValue().accept(x);
            Answers.foundBy(x).due("no run(), " + later.getKey(), Answers.foundBy(States.make("new")));
        }
    }

    private static void whatIsToldLaterWaitsForRun() {
        for (String state : new String[] {"told and run", "run, and some seen"}) {
            for (Map.Entry<String, Consumer<JetTiming>> later : TOLD_LATER.entrySet()) {
                String when = state + ", then " + later.getKey();
                JetTiming x = States.make(state);
                later.getValue().accept(x);
                Answers.foundBy(x).due(when, Answers.foundBy(States.make(state)));
                JetTiming toldBefore = States.make("told");
                later.getValue().accept(toldBefore);
                Check.due(when + ": run()", x.run(), toldBefore.run());
                Answers found = Answers.foundBy(x);
                found.due(when + " and run()", Answers.foundBy(toldBefore));
                Check.due(when + " and run(): something changed",
                        found.differFrom(Answers.foundBy(States.make("told and run"))), true);
            }
        }
    }

    /** "as things are" (promises 9 and 10; 4 as well): no run() is needed, and none keeps them. */
    private static void asThingsAreAtOnce() {
        JetTiming x = new JetTiming(1);
        for (int round = 0; round < 2; round++) {
            x = new JetTiming(1);
            x.piece(5, 0, 1, 0, 0);
            x.piece(9, 0, 1, 9, 0);
            if (round == 1) {
                x.run();
            }
            Check.due("at first, middle(0)", x.middle(0), 5);
            Check.due("at first, middle(1)", x.middle(1), -1);
            Check.due("at first, meet(0, 1)", x.meet(0, 1), false);
            x.speed(0, 2);
            Check.due("behind speed, at(9)", x.at(9), 18);
            Check.due("behind speed, middle(1)", x.middle(1), 11);
            x.lag(3, 3);
            Check.due("behind lag, meet(0, 1)", x.meet(0, 1), true);
            x.lag(3, 2);
            Check.due("behind another lag, meet(0, 1)", x.meet(0, 1), false);
            x.mark(6, 2);
            Check.due("behind mark, at(9)", x.at(9), 20);
            Check.due("behind mark, middle(0)", x.middle(0), 5);
            x.distance(4);
            Check.due("behind distance, middle(0)", x.middle(0), 6);
            Check.due("behind distance, middle(1)", x.middle(1), 13);
            x.piece(9, 0, 1, 0, 0);
            Check.due("behind piece, middle(2)", x.middle(2), 11);
            Check.due("behind piece, meet(1, 2)", x.meet(1, 2), true);
        }
        // A row, told later, changes the place at which an earlier piece was seen.
        x.piece(300, 0, 1, 0, 0);
        Check.due("by 2 steps a tick", x.middle(3), 302);
        x.speed(100, 1);
        Check.due("by 1 step a tick", x.middle(3), 304);
    }

    private static void askingChangesNothing() {
        for (String state : States.NAMES) {
            JetTiming x = States.make(state);
            Answers once = Answers.of(x);
            Answers.of(x).due(state + ", asked twice", once);
            JetTiming y = States.make(state);
            Answers.of(y);
            JetTiming z = States.make(state);
            Check.due(state + ", asked before run()", y.run(), z.run());
            Answers.of(y).due(state + ", asked before run()", Answers.of(z));
        }
    }

    private static void runAgainFindsTheSame() {
        for (String state : States.NAMES) {
            JetTiming x = States.make(state);
            int hit = x.run();
            Answers once = Answers.of(x);
            Check.due(state + ", run() again", x.run(), hit);
            Check.due(state + ", run() a third time", x.run(), hit);
            Answers.of(x).due(state + ", run() again", once);
        }
    }

    private static void runForgetsWhatItFoundBefore() {
        JetTiming x = States.make("run, and some seen");
        for (int kind = 0; kind < 4; kind++) {
            x.wanted(kind, 0);
        }
        Check.due("nothing has a worth, run()", x.run(), 0);
        Check.due("nothing has a worth, worth()", x.worth(), 0);
        Check.due("nothing has a worth, air()", x.air(), 0);
        for (int p = 0; p < 11; p++) {
            Check.due("nothing has a worth, blown(" + p + ")", x.blown(p), 0);
        }
        for (int jet = 0; jet < 6; jet++) {
            Check.due("nothing has a worth, fires(" + jet + ", 0, 0)", x.fires(jet, 0, 0), -1);
            Check.due("nothing has a worth, stuck(" + jet + ")", x.stuck(jet), -1);
        }
        JetTiming y = States.make("run, and some seen");
        y.distance(100000);
        Check.due("nothing has a blow, run()", y.run(), 0);
        Check.due("nothing has a blow, fires(3, 0, 0)", y.fires(3, 0, 0), -1);
        for (int p = 0; p < 11; p++) {
            Check.due("nothing has a blow, blown(" + p + ")", y.blown(p), 0);
            Check.due("nothing has a blow, seen(" + p + ", false)", y.seen(p, false), true);
        }
        Check.due("nothing has a blow, stuck(0)", y.stuck(0), -1);
    }

    /** "NONE when there is no such piece, or it came later" */
    private static void piecesThatCameLater() {
        JetTiming x = new JetTiming(2);
        x.wanted(0, 3);
        x.run();
        for (int p = 0; p < 12; p++) {
            x.piece(10 * p, 0, 1, 0, 0);
            Check.due("came later, blown(" + p + ")", x.blown(p), -1);
            Check.due("came later, seen(" + p + ", false)", x.seen(p, false), false);
            Check.due("came later, seen(" + p + ", true)", x.seen(p, true), false);
            Check.due("came later, a span of it", x.fires(0, p, 0), -1);
            Check.due("came later, worth()", x.worth(), 3L * p);
            Check.due("came later, air()", x.air(), p);
            Check.due("run() with " + (p + 1), x.run(), p + 1);
            Check.due("found, blown(" + p + ")", x.blown(p), 2);
            Check.due("found, its span", x.fires(0, p, 0), 10 * p);
            Check.due("found, seen(" + p + ", false)", x.seen(p, false), true);
            Check.due("found, blown(" + (p + 1) + ")", x.blown(p + 1), -1);
        }
    }

    /** "by what run() found" (promise 13) */
    private static void worthIsAsItWas() {
        JetTiming x = new JetTiming(2);
        x.wanted(0, 8);
        x.wanted(1, -3);
        x.piece(5, 0, 1, 0, 0);
        x.piece(5, 0, 2, 0, 1);
        Check.due("worth: run()", x.run(), 2);
        x.wanted(0, -8);
        Check.due("worth behind wanted(0, -8)", x.worth(), 5);
        x.wanted(1, 1000000);
        Check.due("worth behind wanted(1, 1000000)", x.worth(), 5);
        x.piece(5, 0, 1, 0, 1);
        Check.due("worth behind a piece more", x.worth(), 5);
        Check.due("blown(0) behind it all", x.blown(0), 2);
        x.run();
        Check.due("worth found anew", x.worth(), 1999992);
    }

    /** "The air, by what run() found (strengths as they were)." */
    private static void airIsAsItWas() {
        JetTiming x = new JetTiming(3);
        x.wanted(0, 8);
        x.lag(1, 1);
        x.strength(0, 10, 4);
        x.piece(5, 0, 3, 0, 0);
        x.run();
        long air = 4 * 3 * 3;
        Check.due("air", x.air(), air);
        x.strength(0, 10, 5);
        Check.due("air behind strength", x.air(), air);
        x.lag(2, 2);
        Check.due("air behind lag", x.air(), air);
        x.piece(50, 0, 3, 0, 0);
        Check.due("air behind piece", x.air(), air);
        x.wanted(0, 0);
        Check.due("air behind wanted", x.air(), air);
        x.distance(9);
        Check.due("air behind distance", x.air(), air);
        x.wanted(0, 8);
        x.distance(0);
        x.run();
        Check.due("air found anew", x.air(), 2 * 5 * 3 * 5);
    }

    /** "by what run() found" (promise 14) */
    private static void spansAreAsTheyWere() {
        JetTiming x = new JetTiming(1);
        x.wanted(0, 8);
        x.speed(0, 1);
        x.lag(1, 2);
        x.piece(50, 0, 1, 0, 0);
        x.run();
        x.mark(10, 1);
        x.mark(51, 9);
        x.speed(52, 9);
        x.lag(5, 5);
        x.distance(5);
        x.wanted(0, -8);
        x.piece(60, 0, 1, 0, 0);
        Check.due("the span's first tick stays", x.fires(0, 0, 0), 49);
        Check.due("the span's last tick stays", x.fires(0, 0, 1), 52);
        Check.due("no second span", x.fires(0, 1, 0), -1);
        Check.due("its middle does not stay", x.middle(0), 53);
    }

    /** "false when .. it was seen before behind that run()" */
    private static void seenBehindThatRun() {
        JetTiming x = States.make("told and run");
        for (int round = 0; round < 3; round++) {
            for (int p = 0; p < 11; p++) {
                boolean blown = (p + round) % 2 == 0;
                Check.due("seen(" + p + ") in round " + round, x.seen(p, blown), true);
                Check.due("seen(" + p + ") again", x.seen(p, blown), false);
                Check.due("seen(" + p + ") again, the other way", x.seen(p, !blown), false);
            }
            Check.due("seen(11)", x.seen(11, true), false);
            x.run();
        }
    }

    private static void seenChangesOnlyStuck() {
        JetTiming x = new JetTiming(1);
        x.wanted(0, 5);
        x.piece(5, 0, 1, 0, 0);
        x.piece(5, 0, 1, 0, 0);
        x.run();
        x.seen(0, false);
        x.seen(1, true);
        Check.due("seen, blown(0)", x.blown(0), 2);
        Check.due("seen, blown(1)", x.blown(1), 1);
        Check.due("seen, worth()", x.worth(), 10);
        Check.due("seen, air()", x.air(), 1);
        Check.due("seen, fires(0, 0, 0)", x.fires(0, 0, 0), 5);
        Check.due("seen, run()", x.run(), 2);
        Check.due("seen and run, blown(0)", x.blown(0), 2);
    }

    /** "by what was told since run()" */
    private static void stuckSinceRun() {
        JetTiming x = new JetTiming(2);
        x.wanted(0, 1);
        x.piece(5, 0, 1, 0, 0);
        x.piece(50, 1, 1, 0, 0);
        x.piece(90, 1, 1, 0, 0);
        x.run();
        x.seen(0, false);
        x.seen(1, false);
        Check.due("jet 0", x.stuck(0), 0);
        Check.due("jet 1", x.stuck(1), 1);
        // What is told of pieces, jets' lags or worths later does not touch it.
        x.wanted(0, 0);
        x.distance(9);
        x.piece(5, 0, 1, 0, 0);
        Check.due("jet 1 stays", x.stuck(1), 1);
        x.wanted(0, 1);
        x.distance(0);
        x.run();
        Check.due("none behind a run()", x.stuck(0), -1);
        x.seen(2, false);
        Check.due("jet 1 behind a run()", x.stuck(0), 1);
        x.seen(1, true);
        Check.due("as many each way", x.stuck(0), -1);
    }
}
