/** Promises 1 to 4: a new object, addPair, forgetPairs, correctedTime. */
public final class ClocksTest {
    private static final Checks CHECKS = new Checks();
    private static final Class<IndexOutOfBoundsException> NO_SENSOR = IndexOutOfBoundsException.class;
    private static final Class<IllegalArgumentException> WRONG = IllegalArgumentException.class;
    private static final int[] NO_SENSORS = {-1, 4, 5, Integer.MIN_VALUE, Integer.MAX_VALUE};
    private static final int[] NO_TIMES = {-1, 10000, Integer.MIN_VALUE, Integer.MAX_VALUE};

    public static void main(String[] args) {
        aNewObjectHasNothing();
        pairsAreCountedPerSensor();
        wrongSensorsAreRefusedFirst();
        timesOutOfRangeAreRefused();
        pairsMustFitTheLatestOne();
        aRefusedPairChangesNothing();
        forgettingStartsAnew();
        timesWithoutOrWithOnePair();
        timesWithTwoPairs();
        onlyTheLatestTwoPairsCount();
        CHECKS.end("ClocksTest");
    }

    private static void aNewObjectHasNothing() {
        TrackFusion fusion = new TrackFusion();
        for (int sensor = 0; sensor < 4; sensor++) {
            CHECKS.due("correctedTime(" + sensor + ", 77)", fusion.correctedTime(sensor, 77), 77);
            CHECKS.due("forgetPairs(" + sensor + ")", fusion.forgetPairs(sensor), 0);
        }
        CHECKS.due("batch()", fusion.batch(), 0);
        CHECKS.due("tracks()", fusion.tracks(), 0);
        CHECKS.due("liveTracks()", fusion.liveTracks(), 0);
        CHECKS.due("dropped()", fusion.dropped(), 0);
        CHECKS.due("isBalanced()", fusion.isBalanced(), true);
        CHECKS.due("bestCost()", fusion.bestCost(), 0L);
        CHECKS.due("bestCostByTrying()", fusion.bestCostByTrying(), 0L);
        CHECKS.due("clearBatch()", fusion.clearBatch(), 0);
        for (char sign : "nhxlmg".toCharArray()) {
            CHECKS.due("countOf(" + sign + ")", fusion.countOf(sign), 0);
        }
        CHECKS.dueThrow("status(0)", IndexOutOfBoundsException.class, () -> fusion.status(0));
        CHECKS.dueThrow("goesTo(0)", IndexOutOfBoundsException.class, () -> fusion.goesTo(0));
        CHECKS.dueThrow("process()", IllegalStateException.class, () -> fusion.process());
        fusion.addPair(0, 10, 20);
        CHECKS.due("another one's correctedTime(0, 10)", new TrackFusion().correctedTime(0, 10), 10);
    }

    private static void pairsAreCountedPerSensor() {
        TrackFusion fusion = new TrackFusion();
        CHECKS.due("first pair of 0", fusion.addPair(0, 0, 0), 1);
        CHECKS.due("first pair of 3", fusion.addPair(3, 9999, 9999), 1);
        CHECKS.due("second pair of 0", fusion.addPair(0, 100, 150), 2);
        CHECKS.due("third pair of 0", fusion.addPair(0, 110, 155), 2);
        CHECKS.due("fourth pair of 0", fusion.addPair(0, 9999, 9999), 2);
        CHECKS.due("first pair of 1", fusion.addPair(1, 0, 9999), 1);
        CHECKS.due("first pair of 2", fusion.addPair(2, 9999, 0), 1);
        CHECKS.due("forgetPairs(0)", fusion.forgetPairs(0), 2);
        CHECKS.due("forgetPairs(1)", fusion.forgetPairs(1), 1);
        CHECKS.due("forgetPairs(2)", fusion.forgetPairs(2), 1);
        CHECKS.due("forgetPairs(3)", fusion.forgetPairs(3), 1);
        CHECKS.due("forgetPairs(3) again", fusion.forgetPairs(3), 0);
    }

    private static void wrongSensorsAreRefusedFirst() {
        TrackFusion fusion = new TrackFusion();
        for (int sensor : NO_SENSORS) {
            CHECKS.dueThrow("addPair of sensor " + sensor, NO_SENSOR, () -> fusion.addPair(sensor, 5, 5));
            CHECKS.dueThrow("addPair, all wrong, " + sensor, NO_SENSOR, () -> fusion.addPair(sensor, -1, 10000));
            CHECKS.dueThrow("forgetPairs(" + sensor + ")", NO_SENSOR, () -> fusion.forgetPairs(sensor));
            CHECKS.dueThrow("correctedTime of " + sensor, NO_SENSOR, () -> fusion.correctedTime(sensor, 5));
            CHECKS.dueThrow("correctedTime, all wrong, " + sensor, NO_SENSOR, () -> fusion.correctedTime(sensor, -1));
        }
    }

    private static void timesOutOfRangeAreRefused() {
        TrackFusion fusion = new TrackFusion();
        for (int time : NO_TIMES) {
            CHECKS.dueThrow("addPair at " + time, WRONG, () -> fusion.addPair(0, time, 5));
            CHECKS.dueThrow("addPair at the true " + time, WRONG, () -> fusion.addPair(0, 5, time));
            CHECKS.dueThrow("correctedTime at " + time, WRONG, () -> fusion.correctedTime(0, time));
        }
        CHECKS.due("pairs after refusals", fusion.forgetPairs(0), 0);
        fusion.addPair(0, 9990, 9990);
        CHECKS.dueThrow("a fitting pair beyond 9999", WRONG, () -> fusion.addPair(0, 10000, 10000));
        CHECKS.dueThrow("a fitting pair, truly beyond 9999", WRONG, () -> fusion.addPair(0, 9999, 10000));
        CHECKS.due("a pair at 9999", fusion.addPair(0, 9999, 9999), 2);
        CHECKS.due("correctedTime at 9999", fusion.correctedTime(0, 9999), 9999);
        CHECKS.due("correctedTime at 0", fusion.correctedTime(0, 0), 0);
    }

    /** Each row: the time and the true time that pass since the latest pair, and whether that is a pair. */
    private static void pairsMustFitTheLatestOne() {
        int[][] rows = {
            {100, 50, 1}, {100, 49, 0}, {100, 200, 1}, {100, 201, 0}, {101, 51, 1}, {101, 50, 0}, {101, 202, 1},
            {101, 203, 0}, {1, 1, 1}, {1, 0, 0}, {1, 2, 1}, {1, 3, 0}, {2, 1, 1}, {0, 0, 0}, {0, 1, 0}, {-1, -1, 0},
            {-100, -100, 0}, {-100, 100, 0}, {100, -100, 0}, {-2, -2, 0}, {-1, 0, 0}, {-1, 1, 0},
        };
        for (int[] row : rows) {
            for (int pairsBefore = 1; pairsBefore <= 2; pairsBefore++) {
                TrackFusion fusion = new TrackFusion();
                if (pairsBefore == 2) {
                    fusion.addPair(2, 3000, 1000);
                }
                fusion.addPair(2, 5000, 3000);
                Checks.Call call = () -> fusion.addPair(2, 5000 + row[0], 3000 + row[1]);
                if (row[2] == 1) {
                    CHECKS.due(row[0] + " and " + row[1] + " later", call.answer(), 2);
                } else {
                    CHECKS.dueThrow(row[0] + " and " + row[1] + " later", WRONG, call);
                    CHECKS.due("pairs then", fusion.forgetPairs(2), pairsBefore);
                }
            }
        }
        TrackFusion fusion = new TrackFusion();
        fusion.addPair(1, 5000, 5000);
        CHECKS.due("another sensor's pair need not fit", fusion.addPair(2, 4000, 9000), 1);
    }

    private static void aRefusedPairChangesNothing() {
        TrackFusion fusion = new TrackFusion();
        fusion.addPair(0, 100, 110);
        CHECKS.dueThrow("addPair(0, 200, 111)", WRONG, () -> fusion.addPair(0, 200, 111));
        CHECKS.due("correctedTime(0, 0)", fusion.correctedTime(0, 0), 10);
        fusion.addPair(0, 200, 235);
        CHECKS.dueThrow("addPair(0, 300, 236)", WRONG, () -> fusion.addPair(0, 300, 236));
        CHECKS.dueThrow("addPair(0, 150, 172)", WRONG, () -> fusion.addPair(0, 150, 172));
        CHECKS.due("correctedTime(0, 0)", fusion.correctedTime(0, 0), -15);
        CHECKS.due("correctedTime(0, 300)", fusion.correctedTime(0, 300), 360);
    }

    private static void forgettingStartsAnew() {
        TrackFusion fusion = new TrackFusion();
        fusion.addPair(0, 100, 110);
        fusion.addPair(0, 200, 235);
        fusion.addPair(1, 100, 103);
        CHECKS.due("forgetPairs(0)", fusion.forgetPairs(0), 2);
        CHECKS.due("correctedTime(0, 50)", fusion.correctedTime(0, 50), 50);
        CHECKS.due("correctedTime(1, 50)", fusion.correctedTime(1, 50), 53);
        CHECKS.due("a pair before the forgotten ones", fusion.addPair(0, 60, 9000), 1);
        CHECKS.due("correctedTime(0, 50)", fusion.correctedTime(0, 50), 8990);
        CHECKS.due("a second pair", fusion.addPair(0, 70, 9020), 2);
        CHECKS.due("correctedTime(0, 75)", fusion.correctedTime(0, 75), 9030);
    }

    private static void timesWithoutOrWithOnePair() {
        TrackFusion fusion = new TrackFusion();
        CHECKS.due("no pair, 0", fusion.correctedTime(3, 0), 0);
        CHECKS.due("no pair, 9999", fusion.correctedTime(3, 9999), 9999);
        fusion.addPair(3, 100, 110);
        CHECKS.due("one pair, 50", fusion.correctedTime(3, 50), 60);
        CHECKS.due("one pair, 100", fusion.correctedTime(3, 100), 110);
        CHECKS.due("one pair, 9999", fusion.correctedTime(3, 9999), 10009);
        fusion.addPair(2, 9999, 0);
        CHECKS.due("the least one with one pair", fusion.correctedTime(2, 0), -9999);
        fusion.addPair(1, 0, 9999);
        CHECKS.due("the greatest one with one pair", fusion.correctedTime(1, 9999), 19998);
    }

    private static void timesWithTwoPairs() {
        TrackFusion fusion = new TrackFusion();
        fusion.addPair(0, 100, 110);
        fusion.addPair(0, 200, 235);
        int[][] rows = {
            {200, 235}, {100, 110}, {201, 236}, {203, 238}, {204, 240}, {199, 233}, {197, 231}, {196, 230}, {50, 47},
            {0, -15}, {9999, 12483},
        };
        for (int[] row : rows) {
            CHECKS.due("correctedTime(0, " + row[0] + ")", fusion.correctedTime(0, row[0]), row[1]);
        }
        fusion.addPair(1, 9998, 0);
        fusion.addPair(1, 9999, 2);
        CHECKS.due("the least one", fusion.correctedTime(1, 0), -19996);
        fusion.addPair(2, 0, 9997);
        fusion.addPair(2, 1, 9999);
        CHECKS.due("the greatest one", fusion.correctedTime(2, 9999), 29995);
        fusion.addPair(3, 0, 0);
        fusion.addPair(3, 9999, 5000);
        CHECKS.due("a slow clock, 1", fusion.correctedTime(3, 1), 0);
        CHECKS.due("a slow clock, 2", fusion.correctedTime(3, 2), 1);
        CHECKS.due("a slow clock, 0", fusion.correctedTime(3, 0), 0);
    }

    private static void onlyTheLatestTwoPairsCount() {
        TrackFusion fusion = new TrackFusion();
        fusion.addPair(0, 0, 0);
        fusion.addPair(0, 10, 20);
        CHECKS.due("with two", fusion.correctedTime(0, 5), 10);
        fusion.addPair(0, 20, 30);
        CHECKS.due("with three, 25", fusion.correctedTime(0, 25), 35);
        CHECKS.due("with three, 0", fusion.correctedTime(0, 0), 10);
        fusion.addPair(0, 30, 35);
        CHECKS.due("with four, 33", fusion.correctedTime(0, 33), 36);
        CHECKS.due("with four, 0", fusion.correctedTime(0, 0), 20);
    }
}
