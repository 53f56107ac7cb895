/** Promises 11 to 13: run, blown, worth. */
public final class RunTest {
    public static void main(String[] args) {
        aimedFromTheSide();
        fewestPieces();
        leastSum();
        nothingIsWorthIt();
        groupOfEight();
        groupOfNine();
        groupsApart();
        withoutBlow();
        whatWasFoundStays();
        blownOfNoPiece();
        Check.end("RunTest");
    }

    private static void states(String of, JetTiming x, int... due) {
        for (int p = 0; p < due.length; p++) {
            Check.due(of + ": blown(" + p + ")", x.blown(p), due[p]);
        }
    }

    /** Aimed at, a piece of no worth hits two good ones, and not the bad one beside one of them. */
    private static void aimedFromTheSide() {
        JetTiming x = new JetTiming(4);
        x.wanted(0, 10);
        x.wanted(1, -3);
        x.wanted(2, -50);
        x.piece(5, 0, 1, 0, 0);
        x.piece(5, 0, 2, 0, 1);
        x.piece(5, 1, 2, 0, 0);
        x.piece(5, 2, 1, 0, 2);
        Check.due("from the side: run", x.run(), 3);
        Check.due("from the side: worth", x.worth(), 17);
        states("from the side", x, 1, 2, 1, 0);
    }

    private static void fewestPieces() {
        JetTiming x = new JetTiming(3);
        x.wanted(0, 10);
        x.piece(5, 0, 1, 0, 0);
        x.piece(5, 1, 1, 0, 0);
        x.piece(5, 2, 1, 0, 0);
        x.piece(5, 0, 3, 0, 1);
        Check.due("fewest: run", x.run(), 4);
        Check.due("fewest: worth", x.worth(), 30);
        states("fewest", x, 1, 1, 1, 2);
    }

    private static void leastSum() {
        JetTiming x = new JetTiming(1);
        x.wanted(0, 10);
        x.piece(5, 0, 1, 0, 1);
        x.piece(5, 0, 1, 0, 0);
        x.piece(5, 0, 1, 0, 0);
        Check.due("least sum: run", x.run(), 3);
        states("least sum", x, 2, 1, 1);
        // A chain 0 - 1 - 2 - 3 of which two must be aimed at: 0 with 2 before 0 with 3 or 1 with 2.
        JetTiming y = new JetTiming(4);
        y.wanted(0, 1);
        y.lag(1, 1);
        y.piece(5, 0, 1, 0, 0);
        y.piece(6, 0, 2, 0, 0);
        y.piece(7, 1, 2, 0, 0);
        y.piece(8, 2, 1, 0, 0);
        Check.due("least sum of two: run", y.run(), 4);
        states("least sum of two", y, 2, 1, 2, 1);
    }

    private static void nothingIsWorthIt() {
        JetTiming x = new JetTiming(2);
        x.wanted(0, 5);
        x.wanted(1, -5);
        x.piece(5, 0, 1, 0, 0);
        x.piece(5, 0, 2, 0, 1);
        x.piece(5, 1, 1, 0, 1);
        x.piece(50, 0, 1, 0, 2);
        Check.due("not worth it: run", x.run(), 0);
        Check.due("not worth it: worth", x.worth(), 0);
        states("not worth it", x, 0, 0, 0, 0, -1);
        x.wanted(0, 6);
        Check.due("just worth it: run", x.run(), 2);
        Check.due("just worth it: worth", x.worth(), 1);
        states("just worth it", x, 2, 1, 0, 0);
    }

    private static JetTiming allTogether(int count) {
        JetTiming x = new JetTiming(1);
        x.wanted(0, 3);
        x.wanted(1, -100);
        for (int p = 0; p < count; p++) {
            x.piece(40, 0, 1, 0, p == 2 ? 1 : 0);
        }
        return x;
    }

    private static void groupOfEight() {
        JetTiming x = allTogether(8);
        Check.due("eight together: run", x.run(), 0);
        Check.due("eight together: worth", x.worth(), 0);
        x.wanted(1, -20);
        Check.due("eight together, worth it: run", x.run(), 8);
        Check.due("eight together, worth it: worth", x.worth(), 1);
        states("eight together, worth it", x, 2, 1, 1, 1, 1, 1, 1, 1, -1);
    }

    private static void groupOfNine() {
        JetTiming x = allTogether(9);
        Check.due("nine together: run", x.run(), 9);
        Check.due("nine together: worth", x.worth(), 8 * 3 - 100);
        states("nine together", x, 2, 2, 1, 2, 2, 2, 2, 2, 2, -1);
        x.wanted(0, 0);
        x.wanted(1, -1);
        Check.due("nine worth nothing: run", x.run(), 0);
        // A chain of nine, each of which meets but its neighbours.
        JetTiming y = new JetTiming(10);
        y.wanted(0, 1);
        for (int p = 0; p < 9; p++) {
            y.piece(40, p, 2, 0, p == 4 ? 0 : 1);
        }
        Check.due("chain of nine: run", y.run(), 3);
        states("chain of nine", y, 0, 0, 0, 1, 2, 1, 0, 0, 0);
        JetTiming z = new JetTiming(10);
        z.wanted(0, 1);
        // A chain whose numbers jump to and fro, so that one round of neighbours is not enough.
        int[] places = {0, 8, 2, 6, 4, 5, 3, 7, 1};
        for (int place : places) {
            z.piece(40, place, 2, 0, 0);
        }
        Check.due("mixed chain of nine: run", z.run(), 9);
        states("mixed chain of nine", z, 2, 2, 2, 2, 2, 2, 2, 2, 2);
    }

    private static void groupsApart() {
        JetTiming x = new JetTiming(2);
        x.wanted(0, 4);
        x.wanted(1, -9);
        x.piece(10, 0, 1, 0, 0);
        x.piece(10, 1, 1, 0, 1);
        x.piece(11, 0, 2, 0, 0);
        x.piece(12, 0, 1, 0, 0);
        x.piece(12, 1, 1, 0, 0);
        x.piece(12, 0, 2, 0, 1);
        Check.due("apart: run", x.run(), 2);
        Check.due("apart: worth", x.worth(), 8);
        states("apart", x, 2, 0, 2, 0, 0, 0);
    }

    private static void withoutBlow() {
        JetTiming x = new JetTiming(1);
        x.wanted(0, 4);
        x.speed(0, 1);
        x.distance(10);
        x.lag(100, 100);
        x.piece(19990, 0, 1, 0, 0);
        x.piece(19995, 0, 1, 0, 0);
        Check.due("one without a blow: run", x.run(), 1);
        Check.due("one without a blow: worth", x.worth(), 4);
        states("one without a blow", x, 2, 0);
    }

    private static void whatWasFoundStays() {
        JetTiming x = new JetTiming(2);
        x.wanted(0, 4);
        x.piece(10, 0, 1, 0, 0);
        x.run();
        x.wanted(0, -4);
        x.lag(5, 5);
        x.piece(10, 0, 2, 0, 0);
        x.distance(77);
        Check.due("stays: worth", x.worth(), 4);
        states("stays", x, 2, -1);
        x.distance(0);
        x.wanted(0, 6);
        Check.due("found anew: run", x.run(), 2);
        Check.due("found anew: worth", x.worth(), 12);
        states("found anew", x, 2, 1, -1);
    }

    private static void blownOfNoPiece() {
        JetTiming x = new JetTiming(1);
        x.piece(10, 0, 1, 0, 0);
        x.run();
        states("worth 0", x, 0, -1);
        Check.due("blown(-1)", x.blown(-1), -1);
        Check.due("blown(12)", x.blown(12), -1);
        Check.due("blown(32)", x.blown(32), -1);
        Check.due("blown(least)", x.blown(Integer.MIN_VALUE), -1);
        Check.due("blown(most)", x.blown(Integer.MAX_VALUE), -1);
    }
}
