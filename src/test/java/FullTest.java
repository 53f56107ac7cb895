/** Nothing told yet, and rows, marks, pieces and strengths full: each by itself and all together. */
public final class FullTest {
    private static final int LAST = 20000;

    public static void main(String[] args) {
        nothingTold();
        nothingToldAndRun();
        eightRows();
        eightRowsOfZeroSteps();
        eightMarks();
        twelvePieces();
        sixStrengths();
        refusedCallsTakeNoRoom();
        fullAloneStopsNothingElse();
        allFullTogether();
        theLastOf512Calls();
        Check.end("FullTest");
    }

    private static void nothingTold() {
        JetTiming x = new JetTiming(16);
        for (int tick : new int[] {0, 1, 19999, LAST}) {
            Check.due("a belt that stands, at(" + tick + ")", x.at(tick), 0);
        }
        for (int p = -1; p <= 12; p++) {
            Check.due("no piece, middle(" + p + ")", x.middle(p), -1);
            Check.due("no piece, blown(" + p + ")", x.blown(p), -1);
            Check.due("no piece, seen(" + p + ", true)", x.seen(p, true), false);
            Check.due("no piece, seen(" + p + ", false)", x.seen(p, false), false);
            Check.due("no piece, meet(" + p + ", 0)", x.meet(p, 0), false);
            Check.due("no piece, meet(0, " + p + ")", x.meet(0, p), false);
        }
        nothingFound("nothing told", x);
    }

    private static void nothingToldAndRun() {
        JetTiming x = new JetTiming(16);
        Check.due("nothing told, run()", x.run(), 0);
        nothingFound("nothing told and run", x);
        Check.due("nothing told, run() again", x.run(), 0);
        Check.due("nothing told and run, seen(0, false)", x.seen(0, false), false);
        Check.due("nothing told and run, blown(0)", x.blown(0), -1);
        JetTiming y = new JetTiming(2);
        y.speed(0, 5);
        y.wanted(0, 5);
        y.strength(0, 1000, 5);
        Check.due("no piece, run()", y.run(), 0);
        nothingFound("no piece and run", y);
    }

    private static void nothingFound(String when, JetTiming x) {
        Check.due(when + ": worth()", x.worth(), 0);
        Check.due(when + ": air()", x.air(), 0);
        for (int jet = 0; jet < 16; jet++) {
            Check.due(when + ": fires(" + jet + ", 0, 0)", x.fires(jet, 0, 0), -1);
            Check.due(when + ": fires(" + jet + ", 0, 1)", x.fires(jet, 0, 1), -1);
            Check.due(when + ": stuck(" + jet + ")", x.stuck(jet), -1);
        }
    }

    /** "false when .. there are 8" (promise 2): the eighth counts, the ninth does not. */
    private static void eightRows() {
        JetTiming x = new JetTiming(1);
        long went = 0;
        for (int i = 0; i < 8; i++) {
            Check.due("row " + i, x.speed(100 * i, i + 1), true);
            Check.due("at the row " + i, x.at(100 * i), went);
            Check.due("behind the row " + i, x.at(100 * i + 1), went + i + 1);
            went += 100 * (i + 1);
        }
        for (long tick : new long[] {700, 701, 800, LAST}) {
            Check.due("a ninth row at " + tick, x.speed(tick, 1000), false);
        }
        Check.due("at(20000) behind a ninth row", x.at(LAST), went - 800 + 8 * (LAST - 700));
        Check.due("at(750) behind a ninth row", x.at(750), went - 800 + 8 * 50);
    }

    /** A row of 0 steps is a row. */
    private static void eightRowsOfZeroSteps() {
        JetTiming x = new JetTiming(1);
        for (int i = 0; i < 8; i++) {
            Check.due("row " + i + " of 0 steps", x.speed(i, 0), true);
        }
        Check.due("a ninth row behind rows of 0 steps", x.speed(8, 1), false);
        Check.due("at(20000) behind rows of 0 steps", x.at(LAST), 0);
    }

    /** "false when .. there are 8" (promise 3) */
    private static void eightMarks() {
        JetTiming x = new JetTiming(1);
        for (int i = 0; i < 8; i++) {
            Check.due("mark " + i, x.mark(100 * i, 10 * i), true);
            Check.due("at the mark " + i, x.at(100 * i), 10 * i);
        }
        for (long tick : new long[] {700, 701, 800, LAST}) {
            Check.due("a ninth mark at " + tick, x.mark(tick, -500), false);
        }
        for (int tick = 0; tick <= 800; tick += 50) {
            Check.due("at(" + tick + ") behind a ninth mark", x.at(tick), Math.min(70, tick / 10));
        }
        Check.due("at(20000) behind a ninth mark", x.at(LAST), 70);
        JetTiming y = new JetTiming(1);
        for (int i = 0; i < 8; i++) {
            Check.due("mark " + i + " of 0 steps", y.mark(i, 0), true);
        }
        Check.due("a ninth mark behind marks of 0 steps", y.mark(8, 1), false);
    }

    /** "12 at most", "NONE when there are 12" */
    private static void twelvePieces() {
        JetTiming x = new JetTiming(2);
        x.wanted(0, 1);
        for (int p = 0; p < 12; p++) {
            Check.due("piece " + p + " before it is told", x.middle(p), -1);
            Check.due("piece " + p, x.piece(10 * p, 0, 1, 0, 0), p);
            Check.due("its middle", x.middle(p), 10 * p);
        }
        for (int i = 0; i < 3; i++) {
            Check.due("a thirteenth piece", x.piece(500, 1, 1, 0, 0), -1);
        }
        Check.due("middle(12)", x.middle(12), -1);
        Check.due("meet(12, 0)", x.meet(12, 0), false);
        Check.due("run() of twelve", x.run(), 12);
        Check.due("worth() of twelve", x.worth(), 12);
        Check.due("air() of twelve", x.air(), 12);
        for (int p = 0; p < 12; p++) {
            Check.due("blown(" + p + ")", x.blown(p), 2);
            Check.due("its span", x.fires(0, p, 0), 10 * p);
        }
        Check.due("blown(12)", x.blown(12), -1);
        Check.due("seen(12, false)", x.seen(12, false), false);
        Check.due("a thirteenth span", x.fires(0, 12, 0), -1);
        Check.due("the thirteenth piece's jet", x.fires(1, 0, 0), -1);
        for (int p = 0; p < 12; p++) {
            Check.due("seen(" + p + ", false)", x.seen(p, false), true);
        }
        Check.due("stuck(0)", x.stuck(0), 0);
        Check.due("stuck(1)", x.stuck(1), -1);
        Check.due("a thirteenth piece behind run()", x.piece(500, 1, 1, 0, 0), -1);
    }

    /** "false when .. there are 6" (promise 15): the sixth counts, the seventh does not. */
    private static void sixStrengths() {
        JetTiming x = new JetTiming(1);
        x.wanted(0, 1);
        x.piece(5, 0, 1, 0, 0);
        for (int i = 0; i < 6; i++) {
            Check.due("strength " + i, x.strength(0, 1000, 10 + i), true);
            x.run();
            Check.due("air by strength " + i, x.air(), 10 + i);
        }
        Check.due("a seventh strength", x.strength(0, 1000, 99), false);
        Check.due("a seventh strength, another", x.strength(0, 0, 1), false);
        x.run();
        Check.due("air behind a seventh strength", x.air(), 15);
    }

    /** Refused calls are not counted: behind many of them there is room as before. */
    private static void refusedCallsTakeNoRoom() {
        JetTiming x = new JetTiming(1);
        for (int i = 0; i < 20; i++) {
            x.speed(-1, 5);
            x.speed(5, 1001);
            x.mark(20001, 5);
            x.mark(5, 10001);
            x.piece(5, 0, 2, 5, 0);
            x.piece(5, 0, 1, 5, 4);
            x.strength(5, 4, 5);
            x.strength(0, 5, 0);
        }
        for (int i = 0; i < 12; i++) {
            Check.due("row " + i + " behind refused ones", x.speed(i, 1), i < 8);
            Check.due("mark " + i + " behind refused ones", x.mark(i, 1), i < 8);
            Check.due("strength " + i + " behind refused ones", x.strength(0, i, 1), i < 6);
            Check.due("piece " + i + " behind refused ones", x.piece(i, 0, 1, 0, 0), i);
        }
        Check.due("a thirteenth piece behind refused ones", x.piece(5, 0, 1, 0, 0), -1);
    }

    private static void fullAloneStopsNothingElse() {
        for (int what = 0; what < 4; what++) {
            JetTiming x = new JetTiming(1);
            for (int i = 0; i < 13; i++) {
                switch (what) {
                    case 0: x.speed(i, 1); break;
                    case 1: x.mark(i, 1); break;
                    case 2: x.piece(i, 0, 1, 0, 0); break;
                    default: x.strength(0, i, 1); break;
                }
            }
            String of = new String[] {"rows", "marks", "pieces", "strengths"}[what] + " are full: ";
            Check.due(of + "a row", x.speed(300, 1), what != 0);
            Check.due(of + "a mark", x.mark(300, 1), what != 1);
            Check.due(of + "a piece", x.piece(300, 0, 1, 0, 0), what != 2 ? 0 : -1);
            Check.due(of + "a strength", x.strength(0, 300, 1), what != 3);
            Check.due(of + "distance", x.distance(3), true);
            Check.due(of + "lag", x.lag(3, 3), true);
            Check.due(of + "wanted", x.wanted(3, 3), true);
        }
    }

    /** The most that can be told: 8 rows, 8 marks, 12 pieces over 16 jets, 6 strengths, all at their ends. */
    private static void allFullTogether() {
        JetTiming x = new JetTiming(16);
        for (int i = 0; i < 8; i++) {
            Check.due("row " + i + " of all", x.speed(19993 + i, 1000), true);
            Check.due("mark " + i + " of all", x.mark(19993 + i, i % 2 == 0 ? 10000 : -10000), true);
        }
        for (int p = 0; p < 12; p++) {
            Check.due("piece " + p + " of all", x.piece(19993, 0, 16, 1000, 3), p);
        }
        for (int i = 0; i < 6; i++) {
            Check.due("strength " + i + " of all", x.strength(1000, 1000, 100), true);
        }
        x.wanted(3, 1000000);
        x.lag(100, 100);
        // The place at 19993 is 10000; half of the length, 500, is told at 19995 alone: 12000.
        Check.due("place at 19993", x.at(19993), 10000);
        Check.due("place at 19994", x.at(19994), -9000);
        Check.due("place at 19995", x.at(19995), 12000);
        Check.due("place at 20000", x.at(LAST), -3000);
        Check.due("middle of all", x.middle(11), 19995);
        Check.due("run() of all", x.run(), 12);
        Check.due("worth() of all", x.worth(), 12000000);
        Check.due("air() of all", x.air(), 12L * 100 * 16 * 201);
        Check.due("first tick of all", x.fires(15, 0, 0), 19895);
        Check.due("last tick of all", x.fires(15, 0, 1), 20095);
        x.distance(100000);
        Check.due("no middle by the greatest distance", x.middle(0), -1);
        Check.due("run() by the greatest distance", x.run(), 0);
    }

    /** "at most 512 calls": nothing wears out up to the last of them. */
    private static void theLastOf512Calls() {
        JetTiming x = new JetTiming(2);
        x.wanted(0, 7);
        x.piece(5, 0, 2, 0, 0);
        for (int i = 2; i < 508; i += 2) {
            Check.due("run() as call " + (i + 1), x.run(), 1);
            Check.due("seen(0, false) as call " + (i + 2), x.seen(0, false), true);
        }
        Check.due("worth() as call 509", x.worth(), 7);
        Check.due("air() as call 510", x.air(), 2);
        Check.due("fires(1, 0, 0) as call 511", x.fires(1, 0, 0), 5);
        Check.due("stuck(1) as call 512", x.stuck(1), 1);
        JetTiming y = new JetTiming(2);
        for (int i = 0; i < 510; i++) {
            Check.due("refused as call " + (i + 1), y.piece(5, 0, 3, 0, 0), -1);
        }
        Check.due("piece as call 511", y.piece(5, 0, 2, 0, 0), 0);
        Check.due("middle as call 512", y.middle(0), 5);
    }
}
