/** Promises 2 to 4: speed, mark, at. */
public final class BeltTest {
    public static void main(String[] args) {
        speedEdges();
        speedRefused();
        wentByRows();
        markEdges();
        markRefused();
        lines();
        atEdges();
        Check.end("BeltTest");
    }

    private static void speedEdges() {
        JetTiming x = new JetTiming(1);
        Check.due("speed(0, 0)", x.speed(0, 0), true);
        Check.due("speed(1, 1000)", x.speed(1, 1000), true);
        for (int i = 2; i < 7; i++) {
            Check.due("speed row " + i, x.speed(i, i), true);
        }
        Check.due("speed(20000, 1000), the eighth", x.speed(20000, 1000), true);
        Check.due("a ninth row", x.speed(20000, 1), false);
        JetTiming y = new JetTiming(1);
        for (int i = 0; i < 8; i++) {
            Check.due("speed row " + i, y.speed(10 * i, 1), true);
        }
        Check.due("a ninth row, later", y.speed(80, 5), false);
        Check.due("at behind the refused ninth row", y.at(100), 100);
    }

    private static void speedRefused() {
        JetTiming x = new JetTiming(1);
        x.speed(10, 2);
        Check.due("the same tick", x.speed(10, 3), false);
        Check.due("an earlier tick", x.speed(9, 3), false);
        Check.due("tick -1", x.speed(-1, 3), false);
        Check.due("tick 20001", x.speed(20001, 3), false);
        Check.due("tick of 2^32 + 20", x.speed((1L << 32) + 20, 3), false);
        Check.due("least tick", x.speed(Long.MIN_VALUE, 3), false);
        Check.due("most tick", x.speed(Long.MAX_VALUE, 3), false);
        Check.due("-1 steps", x.speed(20, -1), false);
        Check.due("1001 steps", x.speed(20, 1001), false);
        Check.due("least steps", x.speed(20, Integer.MIN_VALUE), false);
        Check.due("most steps", x.speed(20, Integer.MAX_VALUE), false);
        Check.due("refused rows change nothing", x.at(20000), 2 * 19990);
        Check.due("a row behind refused ones", x.speed(11, 0), true);
        Check.due("at behind it", x.at(20000), 2);
    }

    private static void wentByRows() {
        JetTiming x = new JetTiming(1);
        x.speed(3, 5);
        x.speed(6, 0);
        x.speed(8, 1000);
        long[] due = {0, 0, 0, 0, 5, 10, 15, 15, 15, 1015, 2015};
        for (int t = 0; t < due.length; t++) {
            Check.due("at(" + t + ")", x.at(t), due[t]);
        }
        Check.due("at(20000)", x.at(20000), 15 + 1000 * 19992);
        JetTiming y = new JetTiming(1);
        y.speed(0, 1000);
        Check.due("the furthest place", y.at(20000), 20000000);
        Check.due("a row from tick 0 on, at 0", y.at(0), 0);
        Check.due("a row from tick 0 on, at 1", y.at(1), 1000);
    }

    private static void markEdges() {
        JetTiming x = new JetTiming(1);
        Check.due("mark(0, -10000)", x.mark(0, -10000), true);
        Check.due("mark(1, 10000)", x.mark(1, 10000), true);
        for (int i = 2; i < 7; i++) {
            Check.due("mark " + i, x.mark(i, 0), true);
        }
        Check.due("mark(20000, 7), the eighth", x.mark(20000, 7), true);
        Check.due("at(0)", x.at(0), -10000);
        Check.due("at(1)", x.at(1), 10000);
        Check.due("at(2)", x.at(2), 0);
        Check.due("at(19999)", x.at(19999), 6);
        Check.due("at(20000)", x.at(20000), 7);
        JetTiming y = new JetTiming(1);
        for (int i = 0; i < 8; i++) {
            Check.due("mark " + i, y.mark(i, 3), true);
        }
        Check.due("a ninth mark", y.mark(8, 5), false);
        Check.due("at behind the refused ninth mark", y.at(10), 3);
    }

    private static void markRefused() {
        JetTiming x = new JetTiming(1);
        x.mark(10, 2);
        Check.due("the same tick", x.mark(10, 3), false);
        Check.due("an earlier tick", x.mark(9, 3), false);
        Check.due("tick -1", x.mark(-1, 3), false);
        Check.due("tick 20001", x.mark(20001, 3), false);
        Check.due("tick of 2^32 + 20", x.mark((1L << 32) + 20, 3), false);
        Check.due("-10001 steps", x.mark(20, -10001), false);
        Check.due("10001 steps", x.mark(20, 10001), false);
        Check.due("steps of 2^32", x.mark(20, 1L << 32), false);
        Check.due("least steps", x.mark(20, Long.MIN_VALUE), false);
        Check.due("most steps", x.mark(20, Long.MAX_VALUE), false);
        Check.due("refused marks change nothing", x.at(20000), 2);
        Check.due("a mark behind refused ones", x.mark(11, 0), true);
        Check.due("at behind it", x.at(20000), 0);
    }

    private static void lines() {
        JetTiming x = new JetTiming(1);
        x.mark(2, 3);
        x.mark(5, 5);
        x.mark(9, -4);
        // Up by 2 over 3 ticks: 3, 3.6, 4.3, 5; down by 9 over 4: 5, 2.75, 0.5, -1.75, -4.
        long[] due = {0, 0, 3, 3, 4, 5, 2, 0, -2, -4, -4, -4};
        for (int t = 0; t < due.length; t++) {
            Check.due("marks alone, at(" + t + ")", x.at(t), due[t]);
        }
        x.speed(4, 10);
        for (int t = 0; t < due.length; t++) {
            Check.due("marks and a row, at(" + t + ")", x.at(t), due[t] + Math.max(0, t - 4) * 10L);
        }
        JetTiming y = new JetTiming(1);
        y.mark(0, 10000);
        y.mark(20000, -10000);
        Check.due("a long line down, at(1)", y.at(1), 9999);
        Check.due("a long line down, at(19999)", y.at(19999), -9999);
    }

    private static void atEdges() {
        JetTiming x = new JetTiming(1);
        x.mark(0, 9);
        Check.due("at(0)", x.at(0), 9);
        Check.due("at(20000)", x.at(20000), 9);
        Check.due("at(-1)", x.at(-1), 0);
        Check.due("at(20001)", x.at(20001), 0);
        Check.due("at(2^32)", x.at(1L << 32), 0);
        Check.due("at(least)", x.at(Long.MIN_VALUE), 0);
        Check.due("at(most)", x.at(Long.MAX_VALUE), 0);
    }
}
