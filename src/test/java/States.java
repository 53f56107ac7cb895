/** Objects in the states that a test of refused calls and of what stays wants: each call makes a new one. */
final class States {
    /** What is told leaves room for one row, mark, piece and strength more. */
    static final String[] NAMES = {
        "new", "told", "full", "run while empty", "told and run", "run, and some seen", "run, and more told",
        "full and run"
    };

    private States() {
    }

    static JetTiming make(String name) {
        JetTiming x = new JetTiming(6);
        switch (name) {
            case "new":
                break;
            case "told":
                tell(x);
                break;
            case "full":
                tell(x);
                fill(x);
                break;
            case "run while empty":
                x.run();
                break;
            case "told and run":
                tell(x);
                x.run();
                break;
            case "run, and some seen":
                tell(x);
                x.run();
                see(x);
                break;
            case "run, and more told":
                tell(x);
                x.run();
                see(x);
                tellMore(x);
                break;
            case "full and run":
                tell(x);
                fill(x);
                x.run();
                see(x);
                break;
            default:
                throw new IllegalArgumentException(name);
        }
        return x;
    }

    static boolean isNew(String name) {
        return name.equals("new") || name.equals("run while empty");
    }

    static boolean isFull(String name) {
        return name.startsWith("full");
    }

    static boolean hasFound(String name) {
        return name.contains("run") && !isNew(name);
    }

    static boolean hasSeen(String name) {
        return hasFound(name) && !name.equals("told and run");
    }

    /** Seven rows and marks, eleven pieces, one of them without a blow, and five strengths. */
    private static void tell(JetTiming x) {
        for (int i = 0; i < 7; i++) {
            x.speed(10 * i, 2 + i % 3);
            x.mark(10 * i + 5, i % 2 == 0 ? 3 : -4);
        }
        x.distance(40);
        x.lag(3, 4);
        x.wanted(0, 50);
        x.wanted(1, -20);
        x.wanted(2, 7);
        for (int i = 0; i < 5; i++) {
            x.strength(10 * i, 10 * i + 15, 11 + i);
        }
        x.piece(5, 0, 2, 8, 0);
        x.piece(6, 1, 2, 18, 1);
        x.piece(7, 2, 1, 28, 2);
        x.piece(60, 3, 3, 38, 0);
        x.piece(61, 5, 1, 48, 3);
        x.piece(90, 0, 6, 60, 2);
        x.piece(300, 0, 1, 5, 0);
        x.piece(320, 1, 1, 5, 1);
        x.piece(340, 1, 2, 5, 2);
        x.piece(20000, 1, 2, 5, 2);
        x.piece(342, 2, 2, 5, 3);
    }

    private static void fill(JetTiming x) {
        x.speed(100, 3);
        x.mark(100, 9);
        x.strength(0, 20, 30);
        x.piece(100, 4, 2, 10, 2);
    }

    private static void see(JetTiming x) {
        x.seen(0, false);
        x.seen(1, true);
        x.seen(2, true);
        x.seen(3, false);
        x.seen(9, true);
    }

    /** What a run() behind it finds is another thing in every answer. */
    static void tellMore(JetTiming x) {
        x.speed(100, 5);
        x.mark(101, 30);
        x.distance(80);
        x.lag(9, 8);
        x.wanted(0, -50);
        x.wanted(1, 45);
        x.wanted(2, 11);
        x.wanted(3, 9);
        x.strength(0, 60, 77);
        x.piece(62, 4, 1, 10, 1);
    }
}
