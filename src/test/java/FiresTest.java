/** Promises 14 to 18: fires, strength, air, seen, stuck. */
public final class FiresTest {
    public static void main(String[] args) {
        spansInOrder();
        spansOfNone();
        firesStay();
        strengthEdges();
        airByStrengths();
        airStays();
        seenEdges();
        stuckByMajority();
        stuckOnlyByAimedAt();
        stuckByWhatWasToldSinceRun();
        Check.end("FiresTest");
    }

    private static void spans(JetTiming x, int jet, int... due) {
        for (int k = 0; k < due.length / 2; k++) {
            Check.due("fires(" + jet + ", " + k + ", 0)", x.fires(jet, k, 0), due[2 * k]);
            Check.due("fires(" + jet + ", " + k + ", 1)", x.fires(jet, k, 1), due[2 * k + 1]);
        }
        int k = due.length / 2;
        Check.due("fires(" + jet + ", " + k + ", 0)", x.fires(jet, k, 0), -1);
        Check.due("fires(" + jet + ", " + k + ", 1)", x.fires(jet, k, 1), -1);
    }

    private static void spansInOrder() {
        JetTiming x = new JetTiming(3);
        x.wanted(0, 1);
        x.lag(1, 2);
        x.piece(60, 0, 2, 0, 0);
        x.piece(10, 0, 1, 0, 0);
        x.piece(56, 0, 1, 0, 0);
        x.piece(15, 0, 1, 0, 0);
        x.piece(0, 0, 1, 0, 0);
        x.piece(51, 0, 1, 0, 0);
        // The blows 55 .. 58 and 59 .. 62 touch on jet 0, though they don't meet.
        x.piece(300, 1, 1, 0, 0);
        Check.due("run", x.run(), 7);
        spans(x, 0, 0, 2, 9, 12, 14, 17, 50, 53, 55, 62);
        spans(x, 1, 59, 62, 299, 302);
        spans(x, 2);
        JetTiming y = new JetTiming(1);
        y.wanted(0, 1);
        for (int p = 0; p < 12; p++) {
            y.piece(100 - 2 * p, 0, 1, 0, 0);
        }
        y.run();
        spans(y, 0, 78, 78, 80, 80, 82, 82, 84, 84, 86, 86, 88, 88, 90, 90, 92, 92, 94, 94, 96, 96,
                98, 98, 100, 100);
        // In a group of more than 8 blows that meet are aimed at together.
        JetTiming z = new JetTiming(1);
        z.wanted(0, 1);
        z.lag(9, 3);
        for (int p = 0; p < 9; p++) {
            z.piece(p, 0, 1, 0, 0);
        }
        z.run();
        spans(z, 0, 0, 11);
    }

    private static void spansOfNone() {
        JetTiming x = new JetTiming(2);
        x.wanted(0, 1);
        x.piece(7, 0, 1, 0, 0);
        x.run();
        spans(x, 0, 7, 7);
        Check.due("end 2", x.fires(0, 0, 2), -1);
        Check.due("end -1", x.fires(0, 0, -1), -1);
        Check.due("end most", x.fires(0, 0, Integer.MAX_VALUE), -1);
        Check.due("span -1", x.fires(0, -1, 0), -1);
        Check.due("span least", x.fires(0, Integer.MIN_VALUE, 0), -1);
        Check.due("span most", x.fires(0, Integer.MAX_VALUE, 0), -1);
        Check.due("jet 2 of 2", x.fires(2, 0, 0), -1);
        Check.due("jet 32", x.fires(32, 0, 0), -1);
        Check.due("jet -1", x.fires(-1, 0, 0), -1);
        Check.due("jet most", x.fires(Integer.MAX_VALUE, 0, 0), -1);
        Check.due("a jet without spans, span -1", x.fires(1, -1, 0), -1);
    }

    private static void firesStay() {
        JetTiming x = new JetTiming(1);
        x.wanted(0, 1);
        x.piece(7, 0, 1, 0, 0);
        x.run();
        x.lag(3, 3);
        x.distance(5);
        x.piece(100, 0, 1, 0, 0);
        spans(x, 0, 7, 7);
        x.run();
        spans(x, 0);
        x.distance(0);
        x.run();
        spans(x, 0, 4, 10, 97, 103);
    }

    private static void strengthEdges() {
        JetTiming x = new JetTiming(1);
        x.wanted(0, 1);
        x.piece(7, 0, 1, 500, 0);
        x.speed(0, 1000);
        Check.due("from -1", x.strength(-1, 1000, 5), false);
        Check.due("to 1001", x.strength(0, 1001, 5), false);
        Check.due("from 6 to 5", x.strength(6, 5, 5), false);
        Check.due("v 0", x.strength(0, 1000, 0), false);
        Check.due("v 101", x.strength(0, 1000, 101), false);
        Check.due("v least", x.strength(0, 1000, Integer.MIN_VALUE), false);
        Check.due("from least to most", x.strength(Integer.MIN_VALUE, Integer.MAX_VALUE, 5), false);
        x.run();
        Check.due("air behind refused rows", x.air(), 1);
        Check.due("strength(0, 1000, 100)", x.strength(0, 1000, 100), true);
        Check.due("strength(1000, 1000, 1)", x.strength(1000, 1000, 1), true);
        Check.due("strength(0, 0, 1)", x.strength(0, 0, 1), true);
        Check.due("fourth", x.strength(0, 10, 2), true);
        Check.due("fifth", x.strength(0, 10, 2), true);
        Check.due("sixth", x.strength(0, 10, 2), true);
        Check.due("seventh", x.strength(0, 1000, 3), false);
        x.run();
        Check.due("air behind a refused seventh row", x.air(), 100);
    }

    private static void airByStrengths() {
        JetTiming x = new JetTiming(4);
        x.wanted(0, 1);
        x.lag(4, 5);
        x.strength(10, 20, 3);
        x.strength(15, 30, 7);
        x.strength(18, 19, 2);
        int[] lengths = {9, 10, 14, 15, 17, 18, 19, 20, 30, 31};
        int[] strengths = {1, 3, 3, 7, 7, 2, 2, 7, 7, 1};
        long sum = 0;
        x.speed(0, 1000);
        for (int p = 0; p < lengths.length; p++) {
            int width = 1 + p % 3;
            x.piece(100 + 50 * p, 1, width, lengths[p], 0);
            x.run();
            sum += strengths[p] * width * 10;
            Check.due("air with a piece " + lengths[p] + " long", x.air(), sum);
        }
        // Its blow is cut off at tick 0; and one that is hit, but not aimed at, needs no air.
        x.piece(0, 0, 4, 0, 0);
        x.piece(1, 0, 4, 0, 0);
        x.run();
        Check.due("blown(10)", x.blown(10), 2);
        Check.due("blown(11)", x.blown(11), 1);
        Check.due("air with a blow cut off", x.air(), sum + 4 * 6);
        JetTiming y = new JetTiming(16);
        y.wanted(0, 1);
        y.lag(100, 100);
        y.strength(0, 1000, 100);
        for (int p = 0; p < 12; p++) {
            y.piece(1000 * (p + 1), 0, 16, 0, 0);
        }
        y.run();
        Check.due("the most air", y.air(), 12L * 16 * 201 * 100);
    }

    private static void airStays() {
        JetTiming x = new JetTiming(1);
        x.wanted(0, 1);
        x.piece(5, 0, 1, 0, 0);
        Check.due("air before run", x.air(), 0);
        x.run();
        x.strength(0, 1000, 9);
        x.lag(2, 2);
        Check.due("air stays", x.air(), 1);
        x.run();
        Check.due("air found anew", x.air(), 45);
        x.wanted(0, 0);
        x.run();
        Check.due("no air", x.air(), 0);
    }

    private static void seenEdges() {
        JetTiming x = new JetTiming(1);
        x.wanted(0, 1);
        x.speed(0, 1);
        x.distance(5);
        x.piece(5, 0, 1, 0, 0);
        x.piece(5, 0, 1, 0, 0);
        x.piece(20000, 0, 1, 0, 0);
        x.piece(50, 0, 1, 0, 1);
        Check.due("before run", x.seen(0, true), false);
        x.run();
        x.piece(5, 0, 1, 0, 0);
        Check.due("one aimed at", x.seen(0, true), true);
        Check.due("one hit", x.seen(1, false), true);
        Check.due("one without a blow", x.seen(2, false), true);
        Check.due("one not hit", x.seen(3, true), true);
        Check.due("one that came later", x.seen(4, true), false);
        for (int p = 0; p < 4; p++) {
            Check.due("piece " + p + " again, blown", x.seen(p, true), false);
            Check.due("piece " + p + " again, not blown", x.seen(p, false), false);
        }
        Check.due("piece -1", x.seen(-1, true), false);
        Check.due("piece 12", x.seen(12, true), false);
        Check.due("piece 32", x.seen(32, true), false);
        Check.due("piece most", x.seen(Integer.MAX_VALUE, true), false);
        Check.due("piece least", x.seen(Integer.MIN_VALUE, true), false);
        x.run();
        Check.due("seen anew behind a run", x.seen(0, true), true);
        Check.due("one that came later, behind a run", x.seen(4, true), true);
    }

    private static void stuckByMajority() {
        JetTiming x = new JetTiming(3);
        x.wanted(0, 1);
        for (int p = 0; p < 5; p++) {
            x.piece(10 * p, p < 3 ? 0 : 2, 1, 0, 0);
        }
        x.run();
        Check.due("nothing was seen", x.stuck(0), -1);
        x.seen(0, false);
        Check.due("one not blown", x.stuck(0), 0);
        x.seen(1, true);
        Check.due("as many blown", x.stuck(0), -1);
        x.seen(1, false);
        Check.due("a refused one", x.stuck(0), -1);
        x.seen(4, false);
        Check.due("jet 2", x.stuck(0), 2);
        Check.due("no second one", x.stuck(1), -1);
        x.seen(2, false);
        Check.due("jets 0 and 2, the first", x.stuck(0), 0);
        Check.due("jets 0 and 2, the second", x.stuck(1), 2);
        Check.due("no third one", x.stuck(2), -1);
        Check.due("stuck(-1)", x.stuck(-1), -1);
        Check.due("stuck(least)", x.stuck(Integer.MIN_VALUE), -1);
        Check.due("stuck(most)", x.stuck(Integer.MAX_VALUE), -1);
        x.wanted(0, 0);
        Check.due("stays", x.stuck(1), 2);
        x.run();
        Check.due("behind a run", x.stuck(0), -1);
        x.seen(0, false);
        Check.due("not aimed at any more", x.stuck(0), -1);
    }

    private static void stuckOnlyByAimedAt() {
        JetTiming x = new JetTiming(3);
        x.wanted(0, 1);
        x.piece(5, 0, 2, 0, 0);
        x.piece(5, 1, 2, 0, 0);
        x.run();
        Check.due("blown(0)", x.blown(0), 2);
        Check.due("blown(1)", x.blown(1), 1);
        x.seen(1, true);
        Check.due("one that is hit counts not", x.stuck(0), -1);
        x.seen(0, false);
        Check.due("jet 0", x.stuck(0), 0);
        Check.due("jet 1", x.stuck(1), 1);
        Check.due("jet 2 was not used", x.stuck(2), -1);
    }

    private static void stuckByWhatWasToldSinceRun() {
        JetTiming x = new JetTiming(1);
        x.wanted(0, 1);
        for (int p = 0; p < 4; p++) {
            x.piece(10 * p, 0, 1, 0, 0);
        }
        x.run();
        x.seen(0, true);
        x.seen(1, true);
        x.seen(2, false);
        Check.due("two blown, one not", x.stuck(0), -1);
        x.seen(3, false);
        Check.due("two blown, two not", x.stuck(0), -1);
        x.run();
        x.seen(0, false);
        Check.due("blown before run, not behind it", x.stuck(0), 0);
    }
}
