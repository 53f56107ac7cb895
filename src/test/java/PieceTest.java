/** Promises 5 to 10: distance, lag, piece, wanted, middle, meet. */
public final class PieceTest {
    public static void main(String[] args) {
        distanceEdges();
        lagEdges();
        pieceEdges();
        pieceRefused();
        wantedEdges();
        middleByDistanceAndLength();
        middleWhenTheBeltSlipsBack();
        middleAtTheLastTick();
        middleBehindAllRows();
        middleOfNoPiece();
        meetByTicks();
        meetByJets();
        meetAsThingsAre();
        Check.end("PieceTest");
    }

    private static void distanceEdges() {
        JetTiming x = new JetTiming(1);
        x.speed(0, 1000);
        x.piece(0, 0, 1, 0, 0);
        Check.due("middle at distance 0", x.middle(0), 0);
        Check.due("distance(100000)", x.distance(100000), true);
        Check.due("middle at distance 100000", x.middle(0), 100);
        Check.due("distance(100001)", x.distance(100001), false);
        Check.due("distance(-1)", x.distance(-1), false);
        Check.due("distance(least)", x.distance(Integer.MIN_VALUE), false);
        Check.due("distance(most)", x.distance(Integer.MAX_VALUE), false);
        Check.due("middle behind refused distances", x.middle(0), 100);
        Check.due("distance(0)", x.distance(0), true);
        Check.due("middle at distance 0 again", x.middle(0), 0);
    }

    private static void lagEdges() {
        JetTiming x = new JetTiming(1);
        x.wanted(0, 1);
        x.piece(500, 0, 1, 0, 0);
        blow(x, 500, 500);
        Check.due("lag(100, 0)", x.lag(100, 0), true);
        blow(x, 400, 500);
        Check.due("lag(0, 100)", x.lag(0, 100), true);
        blow(x, 500, 600);
        Check.due("lag(100, 100)", x.lag(100, 100), true);
        blow(x, 400, 600);
        Check.due("lag(101, 5)", x.lag(101, 5), false);
        Check.due("lag(5, 101)", x.lag(5, 101), false);
        Check.due("lag(-1, 5)", x.lag(-1, 5), false);
        Check.due("lag(5, -1)", x.lag(5, -1), false);
        Check.due("lag(least, most)", x.lag(Integer.MIN_VALUE, Integer.MAX_VALUE), false);
        blow(x, 400, 600);
        JetTiming y = new JetTiming(1);
        y.wanted(0, 1);
        y.lag(100, 1);
        y.piece(99, 0, 1, 0, 0);
        blow(y, 0, 100);
        JetTiming z = new JetTiming(1);
        z.wanted(0, 1);
        z.lag(0, 100);
        z.piece(20000, 0, 1, 0, 0);
        blow(z, 20000, 20100);
    }

    private static void blow(JetTiming x, int first, int last) {
        x.run();
        Check.due("the blow's first tick", x.fires(0, 0, 0), first);
        Check.due("the blow's last tick", x.fires(0, 0, 1), last);
    }

    private static void pieceEdges() {
        JetTiming x = new JetTiming(16);
        Check.due("piece(0, 0, 16, 0, 0)", x.piece(0, 0, 16, 0, 0), 0);
        Check.due("piece(20000, 15, 1, 1000, 3)", x.piece(20000, 15, 1, 1000, 3), 1);
        for (int p = 2; p < 12; p++) {
            Check.due("piece " + p, x.piece(100 - p, p, 2, p, p % 4), p);
        }
        Check.due("a thirteenth piece", x.piece(5, 0, 1, 5, 0), -1);
        Check.due("middle of a thirteenth", x.middle(12), -1);
    }

    private static void pieceRefused() {
        JetTiming x = new JetTiming(5);
        Check.due("tick -1", x.piece(-1, 0, 1, 5, 0), -1);
        Check.due("tick 20001", x.piece(20001, 0, 1, 5, 0), -1);
        Check.due("tick 2^32", x.piece(1L << 32, 0, 1, 5, 0), -1);
        Check.due("first -1", x.piece(5, -1, 2, 5, 0), -1);
        Check.due("first 5 of 5", x.piece(5, 5, 1, 5, 0), -1);
        Check.due("first 5, width 0", x.piece(5, 5, 0, 5, 0), -1);
        Check.due("width 0", x.piece(5, 2, 0, 5, 0), -1);
        Check.due("width -1", x.piece(5, 2, -1, 5, 0), -1);
        Check.due("jets 2 to 5 of 5", x.piece(5, 2, 4, 5, 0), -1);
        Check.due("widest of all", x.piece(5, 2, Integer.MAX_VALUE, 5, 0), -1);
        Check.due("least first, most width", x.piece(5, Integer.MIN_VALUE, Integer.MAX_VALUE, 5, 0), -1);
        Check.due("most first", x.piece(5, Integer.MAX_VALUE, 1, 5, 0), -1);
        Check.due("length -1", x.piece(5, 0, 1, -1, 0), -1);
        Check.due("length 1001", x.piece(5, 0, 1, 1001, 0), -1);
        Check.due("length 2^32", x.piece(5, 0, 1, 1L << 32, 0), -1);
        Check.due("kind -1", x.piece(5, 0, 1, 5, -1), -1);
        Check.due("kind 4", x.piece(5, 0, 1, 5, 4), -1);
        Check.due("no piece behind refused ones", x.middle(0), -1);
        Check.due("jets 2 to 4 of 5", x.piece(5, 2, 3, 5, 0), 0);
    }

    private static void wantedEdges() {
        JetTiming x = new JetTiming(4);
        for (int kind = 0; kind < 4; kind++) {
            x.piece(5, kind, 1, 0, kind);
        }
        Check.due("run without worths", x.run(), 0);
        Check.due("wanted(0, 1000000)", x.wanted(0, 1000000), true);
        Check.due("wanted(1, -1000000)", x.wanted(1, -1000000), true);
        Check.due("wanted(3, 30)", x.wanted(3, 30), true);
        Check.due("wanted(3, 1000001)", x.wanted(3, 1000001), false);
        Check.due("wanted(3, -1000001)", x.wanted(3, -1000001), false);
        Check.due("wanted(3, 2^32)", x.wanted(3, 1L << 32), false);
        Check.due("wanted(3, most)", x.wanted(3, Long.MAX_VALUE), false);
        Check.due("wanted(-1, 5)", x.wanted(-1, 5), false);
        Check.due("wanted(4, 5)", x.wanted(4, 5), false);
        Check.due("wanted(most, 5)", x.wanted(Integer.MAX_VALUE, 5), false);
        Check.due("run", x.run(), 2);
        Check.due("worth", x.worth(), 1000030);
        x.wanted(0, 7);
        x.run();
        Check.due("worth when told anew", x.worth(), 37);
    }

    private static void middleByDistanceAndLength() {
        JetTiming x = new JetTiming(1);
        x.speed(0, 10);
        x.distance(100);
        int[] lengths = {0, 1, 2, 3, 19, 20, 21, 22, 1000};
        int[] due = {20, 20, 21, 21, 21, 21, 21, 22, 70};
        for (int p = 0; p < lengths.length; p++) {
            x.piece(10, 0, 1, lengths[p], 0);
            Check.due("middle of one " + lengths[p] + " long", x.middle(p), due[p]);
        }
        x.speed(15, 0);
        x.speed(300, 1);
        Check.due("middle when the belt stood still", x.middle(0), 350);
        Check.due("middle of the longest", x.middle(8), 850);
    }

    private static void middleWhenTheBeltSlipsBack() {
        JetTiming x = new JetTiming(1);
        x.distance(8);
        x.piece(0, 0, 1, 0, 0);
        x.mark(10, 0);
        x.mark(20, 9);
        x.mark(30, 0);
        x.mark(50, 40);
        // 0.9 steps a tick: 8 are told at 19 (8.1).
        Check.due("middle on the way up", x.middle(0), 19);
        x.distance(9);
        Check.due("middle on the very top", x.middle(0), 20);
        x.distance(10);
        Check.due("middle on the second way up", x.middle(0), 35);
        x.piece(25, 0, 1, 0, 0);
        x.distance(0);
        Check.due("middle at once", x.middle(1), 25);
        x.distance(1);
        // At 25 the line is at 4.5, so at 4; 5 are reached behind 30, by 2 a tick.
        Check.due("middle behind the way down", x.middle(1), 33);
        JetTiming y = new JetTiming(1);
        y.distance(50);
        y.mark(7, 50);
        y.mark(8, 0);
        y.piece(0, 0, 1, 0, 0);
        y.piece(7, 0, 1, 0, 0);
        y.piece(8, 0, 1, 0, 0);
        Check.due("middle at a jump for a tick", y.middle(0), 7);
        Check.due("none behind it", y.middle(1), -1);
        Check.due("none from a standing belt", y.middle(2), -1);
    }

    private static void middleAtTheLastTick() {
        JetTiming x = new JetTiming(1);
        x.speed(0, 1);
        x.distance(100);
        x.piece(19900, 0, 1, 1, 0);
        x.piece(19900, 0, 1, 2, 0);
        x.piece(19901, 0, 1, 0, 0);
        x.piece(20000, 0, 1, 1, 0);
        Check.due("middle at 20000", x.middle(0), 20000);
        Check.due("a step too long", x.middle(1), -1);
        Check.due("a tick too late", x.middle(2), -1);
        Check.due("seen at 20000", x.middle(3), -1);
        x.distance(0);
        Check.due("seen at 20000, distance 0", x.middle(3), 20000);
        x.distance(1);
        x.mark(20000, 10000);
        Check.due("by a mark at 20000", x.middle(3), -1);
        x.distance(10000);
        Check.due("by the jump of a mark at 20000", x.middle(0), 20000);
    }

    private static void middleBehindAllRows() {
        JetTiming x = new JetTiming(1);
        x.piece(0, 0, 1, 0, 0);
        for (int i = 0; i < 8; i++) {
            x.speed(10 + 20 * i, i == 7 ? 2 : 1);
            x.mark(20 + 20 * i, i % 2 == 0 ? 0 : -5);
        }
        // 140 by tick 150, 160 by 160; the last mark takes 5 away.
        Check.due("at the last mark", x.at(160), 155);
        x.distance(200);
        Check.due("middle behind 8 rows and 8 marks", x.middle(0), 183);
        x.distance(155);
        Check.due("middle at the last mark", x.middle(0), 160);
        // At 159 it went 158, and the line from 0 at 140 to -5 at 160 tells -4.75, down -5.
        x.distance(153);
        Check.due("middle before the last mark", x.middle(0), 159);
        // Marks alone, whose line rises to 10 i by i a tick, and falls to 0 again.
        JetTiming y = new JetTiming(1);
        for (int i = 0; i < 8; i++) {
            y.mark(10 * i, i % 2 == 0 ? 0 : 10 * i);
        }
        y.piece(0, 0, 1, 0, 0);
        for (int i = 1; i < 8; i += 2) {
            y.distance(10 * i);
            Check.due("middle on top " + i, y.middle(0), 10 * i);
            y.distance(10 * i - i);
            Check.due("middle below top " + i, y.middle(0), 10 * i - 1);
        }
    }

    private static void middleOfNoPiece() {
        JetTiming x = new JetTiming(1);
        x.piece(3, 0, 1, 0, 0);
        Check.due("middle(0)", x.middle(0), 3);
        Check.due("middle(1)", x.middle(1), -1);
        Check.due("middle(-1)", x.middle(-1), -1);
        Check.due("middle(12)", x.middle(12), -1);
        Check.due("middle(least)", x.middle(Integer.MIN_VALUE), -1);
        Check.due("middle(most)", x.middle(Integer.MAX_VALUE), -1);
    }

    private static void meetByTicks() {
        JetTiming x = new JetTiming(1);
        x.lag(3, 4);
        x.piece(100, 0, 1, 0, 0);
        x.piece(107, 0, 1, 0, 0);
        x.piece(108, 0, 1, 0, 0);
        Check.due("one tick together", x.meet(0, 1), true);
        Check.due("one tick together, turned round", x.meet(1, 0), true);
        Check.due("ticks that touch", x.meet(0, 2), false);
        Check.due("ticks that touch, turned round", x.meet(2, 0), false);
        Check.due("a piece and itself", x.meet(0, 0), false);
        Check.due("no piece 3", x.meet(0, 3), false);
        Check.due("no piece -1", x.meet(-1, 0), false);
        Check.due("no pieces at all", x.meet(Integer.MAX_VALUE, Integer.MIN_VALUE), false);
    }

    private static void meetByJets() {
        JetTiming x = new JetTiming(16);
        x.piece(5, 0, 4, 0, 0);
        x.piece(5, 3, 2, 0, 0);
        x.piece(5, 4, 12, 0, 0);
        x.piece(5, 15, 1, 0, 0);
        Check.due("jet 3 together", x.meet(0, 1), true);
        Check.due("jets that touch", x.meet(0, 2), false);
        Check.due("jet 4 together", x.meet(1, 2), true);
        Check.due("jet 15 together", x.meet(3, 2), true);
        Check.due("none together", x.meet(1, 3), false);
    }

    private static void meetAsThingsAre() {
        JetTiming x = new JetTiming(1);
        x.piece(5, 0, 1, 0, 0);
        x.piece(15, 0, 1, 0, 0);
        Check.due("without lags", x.meet(0, 1), false);
        x.run();
        x.lag(5, 5);
        Check.due("with lags", x.meet(0, 1), true);
        x.distance(10);
        Check.due("both without blows", x.meet(0, 1), false);
        x.mark(10, 10);
        Check.due("one without a blow", x.meet(0, 1), false);
        Check.due("one without a blow, turned round", x.meet(1, 0), false);
        x.mark(30, 30);
        Check.due("both with blows, far off", x.meet(0, 1), false);
        x.lag(8, 7);
        // Middles are 10 and 25.
        Check.due("both with blows", x.meet(0, 1), true);
    }
}
