/** The section 'Terms', sentence by sentence: the boundary cases that it names. */
public final class TermsTest {
    private static final int LAST = 20000;

    public static void main(String[] args) {
        theBeltStandsAtFirst();
        ticksBeforeT();
        lastRowNotBehindThatTick();
        furtherOrLess();
        betweenTwoMarksDown();
        marksOneTickApart();
        beforeTheFirstMarkAndBehindTheLast();
        aMarkAtTheFirstAndAtTheLastTick();
        placeIsBothTogether();
        distanceIsZeroAtFirst();
        numberedFromZeroOn();
        middleNotBeforeItWasSeen();
        middleAtMost20000();
        placeIsAtLeast();
        halfOfItsLengthDown();
        mayHaveNoMiddle();
        middleInEachStretch();
        placeWhenItWasSeenMayBeBelowZero();
        blowBeginsAtLeastAtZero();
        lagsAreZeroAtFirst();
        blowBehindTheLastTick();
        jetTogetherAndTicksTogether();
        cutOffBlowsMeet();
        withoutABlowNothingMeets();
        hitAreAllThatMeetIt();
        worthIsZeroAtFirst();
        onceEach();
        groupsOfThoseThatMeetSuch();
        brokenChains();
        countsMost();
        fewestPieces();
        leastSum();
        emptySetOfEquals();
        groupOfEightOrNine();
        groupsSizeCountsBlowsOnly();
        ofALargeGroupOnlyAboveZero();
        spansThatDoNotTouch();
        spansInTheirOrder();
        spansOfCutOffBlows();
        spansOfAimedAtOnly();
        strengthToldLastCounts();
        strengthIsOneWhenNoneCounts();
        airIsStrengthTimesJetsTimesTicks();
        Check.end("TermsTest");
    }

    /** Each piece on jet 0 at its tick, all of kind 0. */
    private static JetTiming onOneJet(int... ticks) {
        JetTiming x = new JetTiming(1);
        x.wanted(0, 1);
        for (int tick : ticks) {
            x.piece(tick, 0, 1, 0, 0);
        }
        return x;
    }

    private static void blow(String of, JetTiming x, int first, int last) {
        x.run();
        Check.due(of + ": first tick", x.fires(0, 0, 0), first);
        Check.due(of + ": last tick", x.fires(0, 0, 1), last);
    }

    private static void found(String of, JetTiming x, int hit, long worth, int... states) {
        Check.due(of + ": run()", x.run(), hit);
        Check.due(of + ": worth()", x.worth(), worth);
        for (int p = 0; p < states.length; p++) {
            Check.due(of + ": blown(" + p + ")", x.blown(p), states[p]);
        }
    }

    private static void theBeltStandsAtFirst() {
        JetTiming x = new JetTiming(1);
        x.speed(100, 6);
        for (int tick : new int[] {0, 1, 50, 99, 100}) {
            Check.due("stands at first, at(" + tick + ")", x.at(tick), 0);
        }
        Check.due("goes then, at(101)", x.at(101), 6);
    }

    /** "the sum, over the ticks before t": a row's own tick counts from the next place on. */
    private static void ticksBeforeT() {
        JetTiming x = new JetTiming(1);
        x.speed(0, 1);
        x.speed(19999, 1000);
        Check.due("at(0)", x.at(0), 0);
        Check.due("at(1)", x.at(1), 1);
        Check.due("at(19999)", x.at(19999), 19999);
        Check.due("at(20000)", x.at(LAST), 20999);
        JetTiming y = new JetTiming(1);
        y.speed(LAST, 1000);
        Check.due("a row at the last tick, at(20000)", y.at(LAST), 0);
    }

    /** "the last row whose tick is not behind that one" */
    private static void lastRowNotBehindThatTick() {
        JetTiming x = new JetTiming(1);
        x.speed(2, 10);
        x.speed(3, 100);
        x.speed(5, 0);
        x.speed(6, 1);
        long[] due = {0, 0, 0, 10, 110, 210, 210, 211, 212};
        for (int tick = 0; tick < due.length; tick++) {
            Check.due("rows side by side, at(" + tick + ")", x.at(tick), due[tick]);
        }
    }

    private static void furtherOrLess() {
        JetTiming x = new JetTiming(1);
        x.speed(0, 3);
        x.mark(10, 4);
        Check.due("further, at(10)", x.at(10), 34);
        JetTiming y = new JetTiming(1);
        y.speed(0, 3);
        y.mark(10, -40);
        Check.due("less, at(10)", y.at(10), -10);
        JetTiming z = new JetTiming(1);
        z.speed(0, 3);
        z.mark(10, -30);
        Check.due("less, down to 0, at(10)", z.at(10), 0);
    }

    /** "between two of them what is told by the line from one to the other, down": below 0, too */
    private static void betweenTwoMarksDown() {
        long[][] lines = {
            {0, 1, 0, 0, 0, 1}, {1, 0, 1, 0, 0, 0}, {0, -1, 0, -1, -1, -1}, {-1, 0, -1, -1, -1, 0},
            {-1, 1, -1, -1, 0, 1}, {1, -1, 1, 0, -1, -1}, {0, 10, 0, 3, 6, 10}, {0, -10, 0, -4, -7, -10},
            {-10, 0, -10, -7, -4, 0}, {5, 5, 5, 5, 5, 5}, {-10000, 10000, -10000, -3334, 3333, 10000},
            {10000, -10000, 10000, 3333, -3334, -10000}};
        for (long[] line : lines) {
            JetTiming x = new JetTiming(1);
            x.mark(40, line[0]);
            x.mark(43, line[1]);
            for (int i = 0; i < 4; i++) {
                Check.due("from " + line[0] + " to " + line[1] + ", at(4" + i + ")", x.at(40 + i), line[2 + i]);
            }
        }
        // Exact thirds and halves are not taken down any further.
        JetTiming y = new JetTiming(1);
        y.mark(0, -6);
        y.mark(4, -12);
        long[] due = {-6, -8, -9, -11, -12};
        for (int tick = 0; tick < due.length; tick++) {
            Check.due("from -6 to -12, at(" + tick + ")", y.at(tick), due[tick]);
        }
    }

    private static void marksOneTickApart() {
        JetTiming x = new JetTiming(1);
        x.mark(7, -10000);
        x.mark(8, 10000);
        x.mark(9, -3);
        long[] due = {0, -10000, 10000, -3, -3};
        for (int i = 0; i < due.length; i++) {
            Check.due("marks side by side, at(" + (6 + i) + ")", x.at(6 + i), due[i]);
        }
    }

    /** "before the first 0, behind the last as at that" */
    private static void beforeTheFirstMarkAndBehindTheLast() {
        JetTiming x = new JetTiming(1);
        x.mark(50, 20);
        Check.due("one mark, at(0)", x.at(0), 0);
        Check.due("one mark, at(49)", x.at(49), 0);
        Check.due("one mark, at(50)", x.at(50), 20);
        Check.due("one mark, at(51)", x.at(51), 20);
        Check.due("one mark, at(20000)", x.at(LAST), 20);
        x.mark(60, -20);
        Check.due("two marks, at(49)", x.at(49), 0);
        Check.due("two marks, at(50)", x.at(50), 20);
        Check.due("two marks, at(59)", x.at(59), -16);
        Check.due("two marks, at(60)", x.at(60), -20);
        Check.due("two marks, at(61)", x.at(61), -20);
        Check.due("two marks, at(20000)", x.at(LAST), -20);
    }

    private static void aMarkAtTheFirstAndAtTheLastTick() {
        JetTiming x = new JetTiming(1);
        x.mark(0, -4);
        Check.due("a mark at 0, at(0)", x.at(0), -4);
        Check.due("a mark at 0, at(1)", x.at(1), -4);
        JetTiming y = new JetTiming(1);
        y.mark(LAST, 4);
        Check.due("a mark at 20000, at(19999)", y.at(19999), 0);
        Check.due("a mark at 20000, at(20000)", y.at(LAST), 4);
        x.mark(LAST, 4);
        Check.due("marks at both, at(9999)", x.at(9999), -1);
        Check.due("marks at both, at(10000)", x.at(10000), 0);
        Check.due("marks at both, at(19999)", x.at(19999), 3);
        Check.due("marks at both, at(20000)", x.at(LAST), 4);
    }

    private static void placeIsBothTogether() {
        JetTiming x = new JetTiming(1);
        x.speed(0, 1000);
        x.mark(LAST, 10000);
        Check.due("the furthest place", x.at(LAST), 20010000);
        JetTiming y = new JetTiming(1);
        y.mark(0, -10000);
        Check.due("the least place", y.at(0), -10000);
        Check.due("the least place at the end", y.at(LAST), -10000);
    }

    private static void distanceIsZeroAtFirst() {
        JetTiming x = new JetTiming(1);
        x.piece(33, 0, 1, 1, 0);
        Check.due("on a belt that stands", x.middle(0), 33);
        x.distance(1);
        Check.due("on a belt that stands, one step off", x.middle(0), -1);
    }

    /** "PIECES are numbered from 0 on", and what is refused takes no number. */
    private static void numberedFromZeroOn() {
        JetTiming x = new JetTiming(2);
        Check.due("first", x.piece(9, 0, 1, 0, 0), 0);
        Check.due("refused", x.piece(9, 0, 3, 0, 0), -1);
        Check.due("second, seen earlier", x.piece(3, 0, 1, 0, 0), 1);
        Check.due("refused again", x.piece(-1, 0, 1, 0, 0), -1);
        Check.due("third, the same as the second", x.piece(3, 0, 1, 0, 0), 2);
        Check.due("middle of the first", x.middle(0), 9);
        Check.due("middle of the second", x.middle(1), 3);
        Check.due("middle of the third", x.middle(2), 3);
        Check.due("middle of a fourth", x.middle(3), -1);
    }

    /** "not before that at which it was seen": the belt was far enough earlier, and slipped back. */
    private static void middleNotBeforeItWasSeen() {
        JetTiming x = new JetTiming(1);
        x.mark(0, 100);
        x.mark(10, 0);
        x.mark(20, 50);
        x.distance(50);
        x.piece(10, 0, 1, 0, 0);
        x.piece(0, 0, 1, 0, 0);
        x.piece(20, 0, 1, 0, 0);
        Check.due("not at 5", x.middle(0), 20);
        Check.due("never 50 steps further", x.middle(1), -1);
        Check.due("seen at the top", x.middle(2), -1);
        x.distance(0);
        Check.due("at the tick itself", x.middle(0), 10);
        Check.due("at the tick itself, from 0", x.middle(1), 0);
    }

    /** "and at most 20000" */
    private static void middleAtMost20000() {
        JetTiming x = new JetTiming(1);
        x.speed(0, 5);
        x.distance(100);
        x.piece(19980, 0, 1, 0, 0);
        x.piece(19981, 0, 1, 0, 0);
        x.piece(19980, 0, 1, 2, 0);
        x.piece(LAST, 0, 1, 0, 0);
        Check.due("at 20000", x.middle(0), LAST);
        Check.due("at 20001", x.middle(1), -1);
        Check.due("a step short at 20000", x.middle(2), -1);
        Check.due("seen at 20000", x.middle(3), -1);
    }

    /** "at which the belt's place is at least": just reached, or gone past */
    private static void placeIsAtLeast() {
        JetTiming x = new JetTiming(1);
        x.speed(0, 7);
        x.piece(0, 0, 1, 0, 0);
        int[] distances = {0, 1, 6, 7, 8, 13, 14, 15};
        int[] due = {0, 1, 1, 1, 2, 2, 2, 3};
        for (int i = 0; i < distances.length; i++) {
            x.distance(distances[i]);
            Check.due("by 7 a tick, " + distances[i] + " off", x.middle(0), due[i]);
        }
        JetTiming y = new JetTiming(1);
        y.mark(10, 9);
        y.piece(0, 0, 1, 0, 0);
        for (int steps : new int[] {1, 8, 9}) {
            y.distance(steps);
            Check.due("by a jump of 9, " + steps + " off", y.middle(0), 10);
        }
        y.distance(10);
        Check.due("by a jump of 9, 10 off", y.middle(0), -1);
    }

    /** "half of its length (down)": of the odd length, not of the sum with the distance */
    private static void halfOfItsLengthDown() {
        JetTiming x = new JetTiming(1);
        x.speed(0, 1);
        x.distance(3);
        int[] lengths = {0, 1, 2, 3, 4, 5, 999, 1000};
        for (int p = 0; p < lengths.length; p++) {
            x.piece(10, 0, 1, lengths[p], 0);
            Check.due(lengths[p] + " long", x.middle(p), 13 + lengths[p] / 2);
        }
    }

    private static void mayHaveNoMiddle() {
        JetTiming x = new JetTiming(1);
        x.wanted(0, 5);
        x.piece(10, 0, 1, 2, 0);
        Check.due("on a belt that stands", x.middle(0), -1);
        found("without a middle", x, 0, 0, 0, -1);
        Check.due("without a middle: fires", x.fires(0, 0, 0), -1);
        Check.due("without a middle: air()", x.air(), 0);
        Check.due("without a middle: seen", x.seen(0, false), true);
        Check.due("without a middle: stuck", x.stuck(0), -1);
        x.speed(10, 1);
        Check.due("on a belt that goes", x.middle(0), 11);
        found("with a middle", x, 1, 5, 2, -1);
    }

    /** 8 rows and 8 marks make 17 stretches of the belt: a middle may lie in any, and at its ends. */
    private static void middleInEachStretch() {
        long[] places = new long[2001];
        for (int tick = 0; tick <= 2000; tick++) {
            places[tick] = withStretches().at(tick);
        }
        for (int tick = 0; tick <= 2000; tick++) {
            boolean isNearAnEnd = tick % 50 < 2 || tick % 50 == 49;
            if (isNearAnEnd && places[tick] >= 0) {
                int due = 0;
                while (places[due] < places[tick]) {
                    due++;
                }
                JetTiming x = withStretches();
                x.distance((int) places[tick]);
                Check.due("the first tick at " + places[tick], x.middle(0), due);
            }
        }
    }

    private static JetTiming withStretches() {
        JetTiming x = new JetTiming(1);
        for (int i = 0; i < 8; i++) {
            x.speed(100 + 200 * i, 1 + i % 3);
            x.mark(200 + 200 * i, i % 2 == 0 ? -70 : 90);
        }
        x.piece(0, 0, 1, 0, 0);
        return x;
    }

    private static void placeWhenItWasSeenMayBeBelowZero() {
        JetTiming x = new JetTiming(1);
        x.mark(0, -10000);
        x.mark(10, 10000);
        x.mark(11, -5);
        x.piece(0, 0, 1, 0, 0);
        x.piece(11, 0, 1, 0, 0);
        x.distance(20000);
        Check.due("from the least to the greatest slip", x.middle(0), 10);
        x.distance(20001);
        Check.due("a step more than that", x.middle(0), -1);
        x.speed(11, 5);
        x.distance(5);
        Check.due("from -5 to 0", x.middle(1), 12);
    }

    /** "from its middle less the valves' OPENING on (at least 0)" */
    private static void blowBeginsAtLeastAtZero() {
        int[] ticks = {0, 1, 29, 30, 31, 32};
        int[] due = {0, 0, 0, 0, 1, 2};
        for (int i = 0; i < ticks.length; i++) {
            JetTiming x = onOneJet(ticks[i]);
            x.lag(30, 2);
            blow("middle " + ticks[i] + " and opening 30", x, due[i], ticks[i] + 2);
            Check.due("middle " + ticks[i] + " and opening 30: air", x.air(), ticks[i] + 2 - due[i] + 1);
        }
    }

    /** "(both lags 0 at first)" */
    private static void lagsAreZeroAtFirst() {
        JetTiming x = onOneJet(30);
        blow("no lags", x, 30, 30);
        JetTiming y = onOneJet(0);
        blow("no lags, at tick 0", y, 0, 0);
        JetTiming z = onOneJet(LAST);
        blow("no lags, at tick 20000", z, LAST, LAST);
    }

    /** "up to its middle and their CLOSING": nothing bounds it at 20000 */
    private static void blowBehindTheLastTick() {
        JetTiming x = onOneJet(LAST, 19999);
        x.lag(0, 1);
        Check.due("they meet at 20000", x.meet(0, 1), true);
        blow("one of two", x, LAST, 20001);
        Check.due("air behind the last tick", x.air(), 2);
    }

    private static void jetTogetherAndTicksTogether() {
        JetTiming x = new JetTiming(4);
        x.lag(2, 3);
        x.piece(100, 0, 2, 0, 0);
        x.piece(100, 2, 2, 0, 0);
        x.piece(105, 1, 1, 0, 0);
        x.piece(106, 1, 1, 0, 0);
        x.piece(105, 2, 1, 0, 0);
        x.piece(95, 1, 1, 0, 0);
        x.piece(94, 1, 1, 0, 0);
        Check.due("ticks, no jet", x.meet(0, 1), false);
        Check.due("jet 1 and tick 103", x.meet(0, 2), true);
        Check.due("jet 1, ticks that touch", x.meet(0, 3), false);
        Check.due("tick 103, no jet", x.meet(0, 4), false);
        Check.due("jet 2 and tick 103", x.meet(1, 4), true);
        Check.due("jet 1 and tick 98", x.meet(0, 5), true);
        Check.due("jet 1, ticks that touch before it", x.meet(0, 6), false);
    }

    private static void cutOffBlowsMeet() {
        JetTiming x = onOneJet(0, 100, 101, 1);
        x.lag(100, 0);
        Check.due("at tick 0", x.meet(0, 1), true);
        Check.due("at tick 0 and from tick 1 on", x.meet(0, 2), false);
        Check.due("both cut off", x.meet(0, 3), true);
    }

    private static void withoutABlowNothingMeets() {
        JetTiming x = onOneJet(5, 5);
        x.lag(100, 100);
        x.piece(5, 0, 1, 2, 0);
        Check.due("both have blows", x.meet(0, 1), true);
        Check.due("one has none", x.meet(0, 2), false);
        Check.due("one has none, turned round", x.meet(2, 0), false);
        found("one has none", x, 2, 2, 2, 1, 0);
    }

    /** "all that meet it are hit, too, and it itself", but not what meets such */
    private static void hitAreAllThatMeetIt() {
        JetTiming x = new JetTiming(5);
        x.wanted(0, 9);
        x.wanted(1, -1);
        x.piece(5, 0, 2, 0, 1);
        x.piece(5, 1, 2, 0, 0);
        x.piece(5, 2, 2, 0, 1);
        x.piece(5, 3, 2, 0, 1);
        // 1 is hit by 0, by 1 and by 2; with 0 but one bad one is hit beside it.
        found("a chain", x, 2, 8, 2, 1, 0, 0);
        x.wanted(1, 1);
        found("a good chain", x, 4, 12, 2, 1, 2, 1);
    }

    private static void worthIsZeroAtFirst() {
        for (int kind = 0; kind < 4; kind++) {
            JetTiming x = new JetTiming(1);
            x.piece(5, 0, 1, 0, kind);
            found("kind " + kind + " at first", x, 0, 0, 0);
            x.wanted(kind, 1);
            found("kind " + kind + " of worth 1", x, 1, 1, 2);
            x.wanted(kind, 0);
            found("kind " + kind + " of worth 0 again", x, 0, 0, 0);
            x.wanted(kind, -1);
            found("kind " + kind + " below 0", x, 0, 0, 0);
        }
        JetTiming y = new JetTiming(2);
        y.wanted(0, 1);
        y.piece(5, 0, 1, 0, 0);
        y.piece(5, 0, 2, 0, 2);
        found("hit beside a kind never told", y, 2, 1, 2, 1);
    }

    /** "What is hit counts .., once each": two that are aimed at hit the same one. */
    private static void onceEach() {
        JetTiming x = new JetTiming(3);
        x.wanted(0, 10);
        x.wanted(1, -6);
        x.wanted(2, -50);
        x.piece(5, 0, 1, 0, 0);
        x.piece(5, 0, 3, 0, 1);
        x.piece(5, 1, 1, 0, 0);
        x.piece(5, 2, 1, 0, 2);
        // 0 and 2 together hit 1, once: 14. Counted twice it would be 8; 0 alone is 4.
        found("once each", x, 3, 14, 2, 1, 2, 0);
    }

    /** "GROUPS of those that meet, or meet such, and so on": by ticks and by jets, in any order */
    private static void groupsOfThoseThatMeetSuch() {
        int[] places = {0, 8, 1, 7, 2, 6, 3, 5, 4};
        JetTiming x = new JetTiming(10);
        x.wanted(0, 3);
        x.wanted(1, -100);
        for (int place : places) {
            x.piece(5, place, 2, 0, place == 4 ? 1 : 0);
        }
        // A group of nine: the good ones beside the bad one are aimed at as well.
        found("nine by jets", x, 9, 8 * 3 - 100, 2, 2, 2, 2, 2, 2, 2, 2, 1);
        JetTiming y = new JetTiming(1);
        y.wanted(0, 3);
        y.wanted(1, -100);
        y.lag(0, 10);
        for (int place : places) {
            y.piece(100 + 10 * place, 0, 1, 0, place == 4 ? 1 : 0);
        }
        found("nine by ticks", y, 9, 8 * 3 - 100, 2, 2, 2, 2, 2, 2, 2, 2, 1);
        y.lag(0, 9);
        found("nine apart", y, 8, 24, 2, 2, 2, 2, 2, 2, 2, 2, 0);
        // The longest chain, from one end to the other; the bad one is the end that is found last.
        JetTiming z = new JetTiming(13);
        z.wanted(0, 3);
        z.wanted(1, -100);
        for (int p = 0; p < 12; p++) {
            z.piece(5, p, 2, 0, p == 11 ? 1 : 0);
        }
        found("a chain of twelve", z, 12, 11 * 3 - 100, 2, 2, 2, 2, 2, 2, 2, 2, 2, 2, 2, 1);
    }

    /** Chains of eight are tried out, chains of nine are not, wherever the chain is broken. */
    private static void brokenChains() {
        for (int gap = 1; gap < 12; gap++) {
            JetTiming x = new JetTiming(14);
            x.wanted(0, 3);
            x.wanted(1, -100);
            for (int p = 0; p < 12; p++) {
                boolean isEnd = p == 0 || p == 11;
                x.piece(5, p < gap ? p : p + 1, 2, 0, isEnd ? 1 : 0);
            }
            x.run();
            // In a small group the neighbour of a bad end is hit from its other side, if there is one.
            Check.due("gap at " + gap + ": the first end", x.blown(0), gap > 8 ? 1 : 0);
            Check.due("gap at " + gap + ": the last end", x.blown(11), 12 - gap > 8 ? 1 : 0);
        }
    }

    private static void countsMost() {
        JetTiming x = new JetTiming(3);
        x.wanted(0, 5);
        x.wanted(1, 6);
        x.wanted(2, -1);
        x.piece(5, 0, 1, 0, 0);
        x.piece(5, 0, 2, 0, 2);
        x.piece(5, 1, 2, 0, 1);
        x.piece(5, 2, 1, 0, 2);
        // 0: 4, 1: 10, 2: 4, 3: 5; 0 and 3: 5 - 1 + 6 - 1 = 9.
        found("counts most", x, 3, 10, 1, 2, 1, 0);
    }

    /** "of those the one with the fewest pieces", whatever their numbers */
    private static void fewestPieces() {
        JetTiming x = new JetTiming(4);
        x.wanted(0, 2);
        for (int jet = 0; jet < 4; jet++) {
            x.piece(5, jet, 1, 0, 0);
        }
        x.piece(5, 0, 2, 0, 1);
        x.piece(5, 2, 2, 0, 1);
        x.piece(5, 1, 2, 0, 1);
        found("two rather than four", x, 7, 8, 1, 1, 1, 1, 2, 2, 1);
        x.piece(5, 0, 4, 0, 1);
        found("one rather than two", x, 8, 8, 1, 1, 1, 1, 1, 1, 1, 2);
    }

    /** "of those the one whose sum of 2^p (for its pieces p) is least" */
    private static void leastSum() {
        JetTiming x = onOneJet(5, 5, 5, 5, 5, 5, 5, 5);
        found("eight alike", x, 8, 8, 2, 1, 1, 1, 1, 1, 1, 1);
        JetTiming y = new JetTiming(3);
        y.wanted(1, 1);
        y.piece(5, 2, 1, 0, 1);
        y.piece(5, 0, 3, 0, 0);
        y.piece(5, 0, 1, 0, 1);
        y.piece(5, 1, 1, 0, 1);
        found("the second of four", y, 4, 3, 1, 2, 1, 1);
        JetTiming z = new JetTiming(6);
        z.wanted(0, 1);
        for (int p = 0; p < 5; p++) {
            z.piece(5, p, 2, 0, 0);
        }
        // All five are hit by 0 and 3 (a sum of 9), by 1 and 3 (10) and by 1 and 4 (18).
        found("pairs of a chain", z, 5, 5, 2, 1, 1, 2, 1);
    }

    /** With nothing to gain the set without a piece is the one with the fewest. */
    private static void emptySetOfEquals() {
        JetTiming x = new JetTiming(2);
        x.wanted(0, 5);
        x.wanted(1, -5);
        x.piece(5, 0, 1, 0, 0);
        x.piece(5, 0, 1, 0, 1);
        found("worth 5 and -5", x, 0, 0, 0, 0);
        x.wanted(1, -4);
        found("worth 5 and -4", x, 2, 1, 2, 1);
        x.wanted(0, 0);
        x.wanted(1, 0);
        found("worth 0 and 0", x, 0, 0, 0, 0);
        x.wanted(0, -1);
        found("worth -1 and 0", x, 0, 0, 0, 0);
    }

    private static JetTiming together(int count, int badOne) {
        JetTiming x = new JetTiming(1);
        x.wanted(0, 1);
        x.wanted(1, -1000);
        for (int p = 0; p < count; p++) {
            x.piece(40, 0, 1, 0, p == badOne ? 1 : 0);
        }
        return x;
    }

    /** "(Of a group of more than 8 pieces: all whose kind's worth is above 0 are aimed at.)" */
    private static void groupOfEightOrNine() {
        for (int count = 2; count <= 12; count++) {
            for (int badOne : new int[] {0, count - 1}) {
                JetTiming x = together(count, badOne);
                boolean large = count > 8;
                Check.due(count + " together: run()", x.run(), large ? count : 0);
                Check.due(count + " together: worth()", x.worth(), large ? count - 1 - 1000 : 0);
                Check.due(count + " together: air()", x.air(), large ? count - 1 : 0);
                for (int p = 0; p < count; p++) {
                    int due = !large ? 0 : p == badOne ? 1 : 2;
                    Check.due(count + " together: blown(" + p + ")", x.blown(p), due);
                }
            }
        }
        for (int count = 1; count <= 12; count++) {
            JetTiming x = together(count, -1);
            Check.due(count + " good together: run()", x.run(), count);
            Check.due(count + " good together: air()", x.air(), count > 8 ? count : 1);
        }
    }

    /** "The pieces with blows stand in GROUPS": a ninth without a blow, or apart, makes no nine. */
    private static void groupsSizeCountsBlowsOnly() {
        JetTiming x = together(8, 3);
        x.piece(40, 0, 1, 2, 0);
        found("eight and one without a blow", x, 0, 0, 0, 0, 0, 0, 0, 0, 0, 0, 0);
        x.speed(40, 1);
        x.lag(0, 1);
        found("nine, as it has a blow now", x, 9, 8 - 1000, 2, 2, 2, 1, 2, 2, 2, 2, 2);
        x.lag(0, 0);
        found("eight and one that touches", x, 1, 1, 0, 0, 0, 0, 0, 0, 0, 0, 2);
        JetTiming y = together(8, 3);
        for (int p = 8; p < 12; p++) {
            y.piece(42, 0, 1, 0, 0);
        }
        found("eight and four", y, 4, 4, 0, 0, 0, 0, 0, 0, 0, 0, 2, 1, 1, 1);
        y.lag(2, 0);
        found("twelve", y, 12, 11 - 1000, 2, 2, 2, 1, 2, 2, 2, 2, 2, 2, 2, 2);
    }

    private static void ofALargeGroupOnlyAboveZero() {
        JetTiming x = new JetTiming(12);
        x.wanted(1, 1);
        x.wanted(2, -1);
        x.wanted(3, 0);
        int[] kinds = {0, 3, 2, 2, 1, 2, 3, 0, 0, 0};
        for (int p = 0; p < kinds.length; p++) {
            x.piece(5, p, 2, 0, kinds[p]);
        }
        found("one above 0", x, 3, -1, 0, 0, 0, 1, 2, 1, 0, 0, 0, 0);
        x.wanted(1, 0);
        found("none above 0", x, 0, 0, 0, 0, 0, 0, 0, 0, 0, 0, 0, 0);
        x.wanted(3, 1000000);
        found("two above 0", x, 6, 1999998, 1, 2, 1, 0, 0, 1, 2, 1, 0, 0);
    }

    private static void spans(String of, JetTiming x, int jet, int... due) {
        for (int k = 0; k <= due.length / 2; k++) {
            boolean isThere = 2 * k < due.length;
            Check.due(of + ": first tick of span " + k, x.fires(jet, k, 0), isThere ? due[2 * k] : -1);
            Check.due(of + ": last tick of span " + k, x.fires(jet, k, 1), isThere ? due[2 * k + 1] : -1);
        }
    }

    /** "spans .. that don't touch (one more tick is between two of them)" */
    private static void spansThatDoNotTouch() {
        JetTiming x = onOneJet(10, 15, 21);
        x.lag(2, 2);
        x.run();
        // 8 .. 12 and 13 .. 17 touch; tick 18 is between them and 19 .. 23.
        spans("one tick between", x, 0, 8, 17, 19, 23);
        JetTiming y = onOneJet(21, 20, 18);
        y.run();
        spans("ticks without lags", y, 0, 18, 18, 20, 21);
        JetTiming z = onOneJet(5, 9, 13, 17);
        z.lag(3, 0);
        z.run();
        spans("four that touch", z, 0, 2, 17);
    }

    private static void spansInTheirOrder() {
        JetTiming x = onOneJet(90, 10, 70, 30, 50, 20000, 0);
        x.run();
        spans("seven in order", x, 0, 0, 0, 10, 10, 30, 30, 50, 50, 70, 70, 90, 90, 20000, 20000);
        // A long group, so that blows that overlap are aimed at together.
        JetTiming y = onOneJet(26, 24, 22, 20, 18, 16, 14, 12, 10, 400, 30);
        y.lag(2, 1);
        y.run();
        // 28 .. 31 touches 24 .. 27.
        spans("blows that overlap", y, 0, 8, 31, 398, 401);
    }

    /** Blows that are cut off at tick 0 begin together; the longest one tells the span's last tick. */
    private static void spansOfCutOffBlows() {
        JetTiming x = onOneJet(5, 9, 3, 0, 8, 1, 2, 4, 6);
        x.lag(10, 2);
        x.run();
        spans("nine cut off", x, 0, 0, 11);
        // Each of the two that share jet 1 hits a good one beside it, so both are aimed at.
        JetTiming y = new JetTiming(3);
        y.wanted(0, 1);
        y.lag(10, 0);
        y.piece(7, 0, 2, 0, 1);
        y.piece(4, 1, 2, 0, 1);
        y.piece(7, 0, 1, 0, 0);
        y.piece(4, 2, 1, 0, 0);
        found("two cut off", y, 4, 2, 2, 2, 1, 1);
        spans("two cut off, jet 0", y, 0, 0, 7);
        spans("two cut off, jet 1", y, 1, 0, 7);
        spans("two cut off, jet 2", y, 2, 0, 4);
    }

    /** "for the blows of the pieces that are aimed at and have it" */
    private static void spansOfAimedAtOnly() {
        JetTiming x = new JetTiming(4);
        x.wanted(0, 5);
        x.lag(2, 2);
        x.piece(10, 0, 2, 0, 0);
        x.piece(13, 1, 2, 0, 0);
        x.run();
        Check.due("aimed at", x.blown(0), 2);
        Check.due("hit", x.blown(1), 1);
        spans("jet 0", x, 0, 8, 12);
        spans("jet 1, shared", x, 1, 8, 12);
        spans("jet 2, of the one that is hit", x, 2);
        spans("jet 3, of none", x, 3);
    }

    private static long airOf(JetTiming x, int length) {
        x.wanted(0, 1);
        x.speed(0, 1000);
        x.piece(5, 0, 1, length, 0);
        x.run();
        return x.air();
    }

    /** "the one told last counts", not the strongest, the narrowest or the first */
    private static void strengthToldLastCounts() {
        int[] lengths = {9, 10, 20, 21};
        int[] due = {40, 5, 5, 40};
        for (int i = 0; i < lengths.length; i++) {
            JetTiming x = new JetTiming(1);
            x.strength(0, 1000, 40);
            x.strength(10, 20, 5);
            Check.due("narrow row last, " + lengths[i] + " long", airOf(x, lengths[i]), due[i]);
            JetTiming y = new JetTiming(1);
            y.strength(10, 20, 5);
            y.strength(0, 1000, 40);
            Check.due("wide row last, " + lengths[i] + " long", airOf(y, lengths[i]), 40);
            JetTiming z = new JetTiming(1);
            z.strength(0, 1000, 40);
            z.strength(0, 1000, 1);
            Check.due("the same row twice, " + lengths[i] + " long", airOf(z, lengths[i]), 1);
        }
    }

    /** "1 when none does" */
    private static void strengthIsOneWhenNoneCounts() {
        for (int length : new int[] {0, 500, 1000}) {
            Check.due("no row, " + length + " long", airOf(new JetTiming(1), length), 1);
        }
        for (int length : new int[] {0, 9, 10, 20, 21, 29, 30, 1000}) {
            JetTiming x = new JetTiming(1);
            x.strength(10, 20, 50);
            x.strength(30, 999, 60);
            boolean first = length >= 10 && length <= 20;
            int due = first ? 50 : length >= 30 && length <= 999 ? 60 : 1;
            Check.due("two rows, " + length + " long", airOf(x, length), due);
        }
    }

    /** The ticks of each blow for itself, though spans of them are joined. */
    private static void airIsStrengthTimesJetsTimesTicks() {
        JetTiming x = new JetTiming(16);
        x.wanted(0, 1);
        x.lag(10, 20);
        x.speed(0, 1000);
        x.strength(5, 5, 7);
        x.piece(4, 1, 15, 5, 0);
        x.run();
        // Its middle is 5, as its half of 2 is reached a tick later; the blow is 0 .. 25.
        Check.due("cut off at 0", x.air(), 7 * 15 * 26);
        JetTiming y = new JetTiming(2);
        y.wanted(0, 1);
        y.lag(10, 10);
        for (int p = 0; p < 9; p++) {
            y.piece(100 + p, 0, 2, 0, 0);
        }
        y.run();
        spans("nine blows in one span", y, 1, 90, 118);
        Check.due("air of nine blows", y.air(), 9 * 2 * 21);
    }
}
