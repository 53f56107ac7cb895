/**
 * Promises 1 to 18, argument by argument: the last value that is taken and the first that is
 * refused on both sides, the ends of the type and sums that would wrap around; and that a value at
 * the end of a range counts as what it is.
 */
public final class RangeTest {
    private static final int LAST = 20000;

    public static void main(String[] args) {
        promise1Jets();
        promise2Speed();
        promise2LaterThanTheRowBefore();
        promise3Mark();
        promise3LaterThanTheMarkBefore();
        promise4At();
        promise5Distance();
        promise6Lag();
        promise7Piece();
        promise7Jets();
        promise7SumsThatWrapAround();
        promise8Wanted();
        promise9Middle();
        promise10Meet();
        promise12Blown();
        promise14Fires();
        promise15Strength();
        promise17Seen();
        promise18Stuck();
        Check.end("RangeTest");
    }

    /** "jets of 1 .. 16 (of another number 1)" */
    private static void promise1Jets() {
        Ranges.ints("of more than one jet", 2, 16, jets -> new JetTiming((int) jets).piece(0, 1, 1, 0, 0) == 0);
        Ranges.ints("of at least 15 jets", 15, 16, jets -> new JetTiming((int) jets).piece(0, 14, 1, 0, 0) == 0);
        Ranges.ints("of any number", Integer.MIN_VALUE, Integer.MAX_VALUE,
                jets -> new JetTiming((int) jets).piece(0, 0, 1, 0, 0) == 0);
        Ranges.ints("of 16 jets, the last", 16, 16, jets -> new JetTiming((int) jets).piece(0, 15, 1, 0, 0) == 0);
        Ranges.ints("of 17 jets, the last", 1, 0, jets -> new JetTiming((int) jets).piece(0, 16, 1, 0, 0) == 0);
    }

    /** "from a tick of 0 .. 20000 on, .. 0 .. 1000 steps each tick" */
    private static void promise2Speed() {
        Ranges.longs("speed: tick", 0, LAST, tick -> new JetTiming(1).speed(tick, 5));
        Ranges.ints("speed: steps", 0, 1000, steps -> new JetTiming(1).speed(5, (int) steps));
        for (int tick : new int[] {0, 1, 19999, LAST}) {
            JetTiming x = new JetTiming(1);
            x.speed(tick, 5);
            Check.due("speed(" + tick + ", 5): at(20000)", x.at(LAST), 5L * (LAST - tick));
        }
        for (int steps : new int[] {0, 1, 999, 1000}) {
            JetTiming x = new JetTiming(1);
            x.speed(0, steps);
            Check.due("speed(0, " + steps + "): at(20000)", x.at(LAST), (long) steps * LAST);
        }
    }

    /** "later than that of the row before" */
    private static void promise2LaterThanTheRowBefore() {
        for (int before : new int[] {0, 1, 10, 19998, 19999, LAST}) {
            Ranges.longs("speed: tick behind a row at " + before, before + 1, LAST, tick -> {
                JetTiming x = new JetTiming(1);
                x.speed(before, 5);
                return x.speed(tick, 6);
            });
        }
        // It is the row before that counts, not the first one and not a mark.
        Ranges.longs("speed: tick behind rows at 10 and 20", 21, LAST, tick -> {
            JetTiming x = new JetTiming(1);
            x.mark(300, 1);
            x.speed(10, 5);
            x.speed(20, 5);
            return x.speed(tick, 6);
        });
    }

    /** "at a tick of 0 .. 20000, .. -10000 .. 10000 steps" */
    private static void promise3Mark() {
        Ranges.longs("mark: tick", 0, LAST, tick -> new JetTiming(1).mark(tick, 5));
        Ranges.longs("mark: steps", -10000, 10000, steps -> new JetTiming(1).mark(5, steps));
        for (int tick : new int[] {0, 1, 19999, LAST}) {
            JetTiming x = new JetTiming(1);
            x.mark(tick, 5);
            Check.due("mark(" + tick + ", 5): at it", x.at(tick), 5);
            Check.due("mark(" + tick + ", 5): before it", x.at(tick - 1), 0);
            Check.due("mark(" + tick + ", 5): at 20000", x.at(LAST), 5);
        }
        for (int steps : new int[] {-10000, -9999, -1, 0, 1, 9999, 10000}) {
            JetTiming x = new JetTiming(1);
            x.mark(7, steps);
            Check.due("mark(7, " + steps + "): at it", x.at(7), steps);
        }
    }

    /** "later than that of the mark before" */
    private static void promise3LaterThanTheMarkBefore() {
        for (int before : new int[] {0, 1, 10, 19998, 19999, LAST}) {
            Ranges.longs("mark: tick behind a mark at " + before, before + 1, LAST, tick -> {
                JetTiming x = new JetTiming(1);
                x.mark(before, 5);
                return x.mark(tick, 6);
            });
        }
        Ranges.longs("mark: tick behind marks at 10 and 20", 21, LAST, tick -> {
            JetTiming x = new JetTiming(1);
            x.speed(300, 1);
            x.mark(10, 5);
            x.mark(20, 5);
            return x.mark(tick, 6);
        });
    }

    /** "The belt's place at a tick, 0 .. 20000; 0 when it is not such." */
    private static void promise4At() {
        Ranges.longs("at: tick", 0, LAST, tick -> onAMovingBelt().at(tick) != 0);
        // 7 + 2 tick is odd for every long, so that a 0 can't be taken for it.
        Ranges.longs("at: tick, its place", 0, LAST, tick -> onAMovingBelt().at(tick) == 7 + 2 * tick);
    }

    private static JetTiming onAMovingBelt() {
        JetTiming x = new JetTiming(1);
        x.mark(0, 7);
        x.speed(0, 2);
        return x;
    }

    /** "The distance becomes 0 .. 100000 steps." */
    private static void promise5Distance() {
        Ranges.ints("distance: steps", 0, 100000, steps -> new JetTiming(1).distance((int) steps));
        for (int steps : new int[] {0, 1, 999, 1000, 1001, 99999, 100000}) {
            JetTiming x = new JetTiming(1);
            x.speed(0, 10);
            x.piece(3, 0, 1, 0, 0);
            x.distance(steps);
            Check.due("distance(" + steps + "): middle", x.middle(0), 3 + (steps + 9) / 10);
        }
    }

    /** "The valves' lags become 0 .. 100 ticks each." */
    private static void promise6Lag() {
        Ranges.ints("lag: open", 0, 100, open -> new JetTiming(1).lag((int) open, 5));
        Ranges.ints("lag: close", 0, 100, close -> new JetTiming(1).lag(5, (int) close));
        for (int open : new int[] {0, 1, 99, 100}) {
            for (int close : new int[] {0, 1, 99, 100}) {
                JetTiming x = new JetTiming(1);
                x.wanted(0, 1);
                x.piece(500, 0, 1, 0, 0);
                x.lag(open, close);
                x.run();
                String of = "lag(" + open + ", " + close + "): ";
                Check.due(of + "first tick", x.fires(0, 0, 0), 500 - open);
                Check.due(of + "last tick", x.fires(0, 0, 1), 500 + close);
            }
        }
    }

    /** "seen at a tick of 0 .. 20000, .. 0 .. 1000 steps long", of a kind 0 .. 3 */
    private static void promise7Piece() {
        Ranges.longs("piece: tick", 0, LAST, tick -> new JetTiming(2).piece(tick, 0, 1, 5, 0) == 0);
        Ranges.longs("piece: length", 0, 1000, length -> new JetTiming(2).piece(5, 0, 1, length, 0) == 0);
        Ranges.ints("piece: kind", 0, 3, kind -> new JetTiming(2).piece(5, 0, 1, 5, (int) kind) == 0);
        for (int tick : new int[] {0, 1, 19999, LAST}) {
            JetTiming x = new JetTiming(1);
            x.piece(tick, 0, 1, 0, 0);
            Check.due("piece seen at " + tick + ": middle", x.middle(0), tick);
        }
        for (int length : new int[] {0, 1, 2, 3, 998, 999, 1000}) {
            JetTiming x = new JetTiming(1);
            x.speed(0, 1);
            x.piece(4, 0, 1, length, 0);
            Check.due("piece " + length + " long: middle", x.middle(0), 4 + length / 2);
        }
        for (int kind = 0; kind < 4; kind++) {
            JetTiming x = new JetTiming(1);
            x.wanted(kind, 10 + kind);
            x.piece(4, 0, 1, 0, kind);
            x.run();
            Check.due("piece of kind " + kind + ": worth", x.worth(), 10 + kind);
        }
    }

    /** "from a first jet on, so many jets wide (1 or more, none behind the last jet)" */
    private static void promise7Jets() {
        for (int jets = 1; jets <= 16; jets++) {
            int all = jets;
            Ranges.ints("piece: first of " + jets, 0, jets - 1,
                    first -> new JetTiming(all).piece(5, (int) first, 1, 5, 0) == 0);
            for (int first = 0; first < jets; first++) {
                int from = first;
                Ranges.ints("piece: width from " + first + " of " + jets, 1, jets - first,
                        width -> new JetTiming(all).piece(5, from, (int) width, 5, 0) == 0);
                firesOnItsJets(jets, first, 1);
                firesOnItsJets(jets, first, jets - first);
            }
            Ranges.ints("piece: width from behind the last of " + jets, 1, 0,
                    width -> new JetTiming(all).piece(5, all, (int) width, 5, 0) == 0);
            Ranges.ints("piece: width from before the first of " + jets, 1, 0,
                    width -> new JetTiming(all).piece(5, -1, (int) width, 5, 0) == 0);
        }
    }

    private static void firesOnItsJets(int jets, int first, int width) {
        JetTiming x = new JetTiming(jets);
        x.wanted(0, 1);
        x.piece(5, first, width, 0, 0);
        x.run();
        for (int jet = 0; jet < jets; jet++) {
            boolean has = jet >= first && jet < first + width;
            Check.due("jet " + jet + " of a piece from " + first + ", " + width + " wide",
                    x.fires(jet, 0, 0), has ? 5 : -1);
        }
    }

    private static void promise7SumsThatWrapAround() {
        int[] firsts = {Integer.MIN_VALUE, Integer.MIN_VALUE + 1, -16, -1, 0, 1, 15, 16, Integer.MAX_VALUE - 1,
            Integer.MAX_VALUE};
        int[] widths = {Integer.MIN_VALUE, Integer.MIN_VALUE + 1, -1, 0, 17, 32, 33, Integer.MAX_VALUE - 1,
            Integer.MAX_VALUE};
        for (int first : firsts) {
            for (int width : widths) {
                Check.due("piece(5, " + first + ", " + width + ", 5, 0)",
                        new JetTiming(16).piece(5, first, width, 5, 0), -1);
            }
        }
    }

    /** "A kind's worth, -1000000 .. 1000000." */
    private static void promise8Wanted() {
        Ranges.ints("wanted: kind", 0, 3, kind -> new JetTiming(1).wanted((int) kind, 5));
        Ranges.longs("wanted: worth", -1000000, 1000000, worth -> new JetTiming(1).wanted(2, worth));
        for (int worth : new int[] {-1000000, -999999, -1, 0, 1, 999999, 1000000}) {
            // Of a group of nine the good ones are aimed at whatever else they hit.
            JetTiming x = new JetTiming(1);
            x.wanted(0, worth);
            x.wanted(3, 1);
            x.piece(5, 0, 1, 0, 0);
            for (int p = 1; p < 9; p++) {
                x.piece(5, 0, 1, 0, 3);
            }
            x.run();
            Check.due("a kind of worth " + worth + ", among eight of 1", x.worth(), worth + 8);
        }
    }

    /** Pieces in a row on jet 0 of 3, all of them aimed at; their ticks are even ones, so that none is NONE. */
    private static JetTiming withPieces(int count) {
        JetTiming x = new JetTiming(3);
        x.wanted(0, 1);
        for (int p = 0; p < count; p++) {
            x.piece(10 + 2 * p, 0, 1, 0, 0);
        }
        x.run();
        return x;
    }

    /** "NONE when .. there is no such piece" */
    private static void promise9Middle() {
        for (int count : new int[] {0, 1, 5, 11, 12}) {
            Ranges.ints("middle: piece of " + count, 0, count - 1,
                    piece -> withPieces(count).middle((int) piece) != -1);
            Ranges.ints("middle: piece of " + count + ", its tick", 0, count - 1,
                    piece -> withPieces(count).middle((int) piece) == 10 + 2 * piece);
        }
    }

    /** "two different pieces ..; false when there are none such" */
    private static void promise10Meet() {
        for (int count : new int[] {0, 1, 2, 5, 12}) {
            Ranges.ints("meet: piece of " + count + " with 0", 1, count - 1,
                    piece -> allMeeting(count).meet((int) piece, 0));
            Ranges.ints("meet: 0 with piece of " + count, 1, count - 1,
                    piece -> allMeeting(count).meet(0, (int) piece));
            Ranges.ints("meet: piece of " + count + " with itself", 1, 0,
                    piece -> allMeeting(count).meet((int) piece, (int) piece));
            Ranges.ints("meet: piece of " + count + " with the next that isn't there", 1, 0,
                    piece -> allMeeting(count).meet((int) piece, count));
            Ranges.ints("meet: -1 with piece of " + count, 1, 0,
                    piece -> allMeeting(count).meet(-1, (int) piece));
        }
    }

    private static JetTiming allMeeting(int count) {
        JetTiming x = withPieces(count);
        x.lag(20, 20);
        return x;
    }

    /** "NONE when there is no such piece" */
    private static void promise12Blown() {
        for (int count : new int[] {0, 1, 5, 11, 12}) {
            Ranges.ints("blown: piece of " + count, 0, count - 1,
                    piece -> withPieces(count).blown((int) piece) == 2);
            Ranges.ints("blown: piece of " + count + ", NONE", 0, count - 1,
                    piece -> withPieces(count).blown((int) piece) != -1);
        }
    }

    /** "The first (end = 0) or last (1) tick of a jet's k-th span, from 0 on; NONE when there is none such." */
    private static void promise14Fires() {
        for (int jets = 1; jets <= 16; jets++) {
            int all = jets;
            Ranges.ints("fires: jet of " + jets, 0, jets - 1, jet -> onAllJets(all).fires((int) jet, 0, 0) == 10);
            Ranges.ints("fires: jet of " + jets + ", NONE", 0, jets - 1,
                    jet -> onAllJets(all).fires((int) jet, 0, 1) != -1);
        }
        for (int spans : new int[] {0, 1, 5, 11, 12}) {
            Ranges.ints("fires: span of " + spans, 0, spans - 1,
                    k -> withPieces(spans).fires(0, (int) k, 0) == 10 + 2 * k);
            Ranges.ints("fires: span of " + spans + ", NONE", 0, spans - 1,
                    k -> withPieces(spans).fires(0, (int) k, 1) != -1);
            Ranges.ints("fires: span of a jet that doesn't", 1, 0,
                    k -> withPieces(spans).fires(1, (int) k, 0) != -1);
        }
        Ranges.ints("fires: end", 0, 1, end -> onAllJets(1).fires(0, 0, (int) end) == 10 + 4 * end);
        Ranges.ints("fires: end, NONE", 0, 1, end -> onAllJets(1).fires(0, 0, (int) end) != -1);
    }

    private static JetTiming onAllJets(int jets) {
        JetTiming x = new JetTiming(jets);
        x.wanted(0, 1);
        x.lag(0, 4);
        x.piece(10, 0, jets, 0, 0);
        x.run();
        return x;
    }

    /** "for lengths of 0 .. 1000 steps, from at most to, 1 .. 100" */
    private static void promise15Strength() {
        for (int end : new int[] {0, 1, 7, 999, 1000}) {
            Ranges.ints("strength: from, up to " + end, 0, end,
                    from -> new JetTiming(1).strength((int) from, end, 5));
            Ranges.ints("strength: to, from " + end, end, 1000, to -> new JetTiming(1).strength(end, (int) to, 5));
        }
        for (int end : new int[] {Integer.MIN_VALUE, -1, 1001, Integer.MAX_VALUE}) {
            Ranges.ints("strength: from, up to " + end, 1, 0,
                    from -> new JetTiming(1).strength((int) from, end, 5));
            Ranges.ints("strength: to, from " + end, 1, 0, to -> new JetTiming(1).strength(end, (int) to, 5));
        }
        Ranges.ints("strength: v", 1, 100, v -> new JetTiming(1).strength(0, 1000, (int) v));
        for (int v : new int[] {1, 2, 99, 100}) {
            Check.due("air by a strength of " + v, airOfLength(7, 0, 1000, v), v);
        }
        int[][] rows = {{0, 0}, {0, 1}, {1, 1}, {5, 9}, {999, 1000}, {1000, 1000}, {0, 1000}};
        for (int[] row : rows) {
            for (int length : new int[] {0, 1, 2, 4, 5, 9, 10, 998, 999, 1000}) {
                boolean counts = row[0] <= length && length <= row[1];
                Check.due("air of one " + length + " long, a row from " + row[0] + " to " + row[1],
                        airOfLength(length, row[0], row[1], 7), counts ? 7 : 1);
            }
        }
    }

    private static long airOfLength(int length, int from, int to, int v) {
        JetTiming x = new JetTiming(1);
        x.speed(0, 1);
        x.wanted(0, 1);
        x.strength(from, to, v);
        x.piece(5, 0, 1, length, 0);
        x.run();
        return x.air();
    }

    /** "false when run() found nothing of it" */
    private static void promise17Seen() {
        for (int count : new int[] {0, 1, 5, 11, 12}) {
            for (int blown = 0; blown <= 1; blown++) {
                boolean wasBlown = blown == 1;
                Ranges.ints("seen: piece of " + count, 0, count - 1,
                        piece -> withPieces(count).seen((int) piece, wasBlown));
            }
        }
    }

    /** "The k-th jet, by numbers, that seems stuck .. NONE when there is none such." */
    private static void promise18Stuck() {
        for (int stuck = 0; stuck <= 16; stuck++) {
            int count = stuck;
            Ranges.ints("stuck: of " + stuck, 0, stuck - 1, k -> lastJetsStuck(count).stuck((int) k) != -1);
            for (int k = 0; k < stuck; k++) {
                Check.due("stuck(" + k + ") of " + stuck, lastJetsStuck(stuck).stuck(k), 16 - stuck + k);
            }
        }
    }

    private static JetTiming lastJetsStuck(int stuck) {
        JetTiming x = new JetTiming(16);
        x.wanted(0, 1);
        x.piece(5, 16 - stuck, stuck, 0, 0);
        x.run();
        x.seen(0, false);
        return x;
    }
}
