/** Promises 9 to 17: report, clearBatch, process, batch, distance, canTake, bestCost, bestCostByTrying, goesTo. */
public final class BatchTest {
    private static final Checks CHECKS = new Checks();
    private static final Class<IndexOutOfBoundsException> NO_INDEX = IndexOutOfBoundsException.class;
    private static final Class<IllegalArgumentException> WRONG = IllegalArgumentException.class;
    private static final Class<IllegalStateException> NO_STATE = IllegalStateException.class;
    private static final Class<java.util.NoSuchElementException> NO_TRACK = java.util.NoSuchElementException.class;

    public static void main(String[] args) {
        reportsAreNumbered();
        wrongReportsAreRefused();
        theFirstDocumentedExceptionIsThrown();
        theTimeIsCorrectedWhenTheReportComes();
        aClearedBatchIsNotProcessed();
        processingEmptiesTheBatch();
        distances();
        distancesOfWrongNumbers();
        onlyLiveTracksHaveDistances();
        tracksTakeReportsWithinGateAndTime();
        anEmptyBatchCostsNothing();
        theLeastSumCounts();
        aTrackTakesOneReport();
        tiesGoToTheLowerTrack();
        tiesGoToATrackRatherThanToNone();
        fourReportsAndSixTracks();
        askingChangesNothing();
        CHECKS.end("BatchTest");
    }

    private static void reportsAreNumbered() {
        TrackFusion fusion = new TrackFusion();
        CHECKS.due("first report", fusion.report(0, 0, -999, 999), 0);
        CHECKS.due("batch()", fusion.batch(), 1);
        CHECKS.due("second report", fusion.report(3, 9999, 999, -999), 1);
        CHECKS.due("third report", fusion.report(1, 5, 0, 0), 2);
        CHECKS.due("fourth report", fusion.report(2, 5, 0, 0), 3);
        CHECKS.due("batch()", fusion.batch(), 4);
        CHECKS.dueThrow("fifth report", NO_STATE, () -> fusion.report(2, 5, 0, 0));
        CHECKS.due("batch()", fusion.batch(), 4);
        CHECKS.due("clearBatch()", fusion.clearBatch(), 4);
        CHECKS.due("first report again", fusion.report(0, 1, 1, 1), 0);
        CHECKS.due("clearBatch()", fusion.clearBatch(), 1);
    }

    private static void wrongReportsAreRefused() {
        TrackFusion fusion = new TrackFusion();
        for (int sensor : new int[] {-1, 4, Integer.MIN_VALUE, Integer.MAX_VALUE}) {
            CHECKS.dueThrow("sensor " + sensor, NO_INDEX, () -> fusion.report(sensor, 0, 0, 0));
        }
        for (int time : new int[] {-1, 10000, Integer.MIN_VALUE, Integer.MAX_VALUE}) {
            CHECKS.dueThrow("time " + time, WRONG, () -> fusion.report(0, time, 0, 0));
        }
        for (int place : new int[] {-1000, 1000, Integer.MIN_VALUE, Integer.MAX_VALUE}) {
            CHECKS.dueThrow("x " + place, WRONG, () -> fusion.report(0, 0, place, 0));
            CHECKS.dueThrow("y " + place, WRONG, () -> fusion.report(0, 0, 0, place));
        }
        CHECKS.due("batch()", fusion.batch(), 0);
    }

    private static void theFirstDocumentedExceptionIsThrown() {
        TrackFusion fusion = new TrackFusion();
        CHECKS.dueThrow("sensor and time", NO_INDEX, () -> fusion.report(4, -1, 0, 0));
        CHECKS.dueThrow("sensor and place", NO_INDEX, () -> fusion.report(-1, 0, 1000, 0));
        Runs.reportAt(fusion, 0, 1, 1, 2, 2, 3, 3, 4, 4);
        CHECKS.dueThrow("sensor and full batch", NO_INDEX, () -> fusion.report(4, 0, 0, 0));
        CHECKS.dueThrow("time and full batch", WRONG, () -> fusion.report(0, 10000, 0, 0));
        CHECKS.dueThrow("x and full batch", WRONG, () -> fusion.report(0, 0, -1000, 0));
        CHECKS.dueThrow("y and full batch", WRONG, () -> fusion.report(0, 0, 0, -1000));
        CHECKS.dueThrow("distance, both wrong", NO_INDEX, () -> fusion.distance(4, 0));
        CHECKS.dueThrow("canTake, both wrong", NO_INDEX, () -> fusion.canTake(-1, -1));
        fusion.process();
        for (int track = 0; track < 4; track++) {
            CHECKS.due("place of " + track, fusion.stateOf(track, 0), 16 * (track + 1));
        }
    }

    private static void theTimeIsCorrectedWhenTheReportComes() {
        TrackFusion fusion = new TrackFusion();
        fusion.addPair(1, 100, 200);
        fusion.report(1, 150, 0, 0);
        fusion.report(0, 150, 300, 0);
        fusion.addPair(1, 200, 400);
        fusion.report(1, 150, 0, 300);
        fusion.forgetPairs(1);
        fusion.report(1, 150, 300, 300);
        fusion.process();
        CHECKS.due("with one pair", fusion.timeOf(0), 250);
        CHECKS.due("of another sensor", fusion.timeOf(1), 150);
        CHECKS.due("with two pairs", fusion.timeOf(2), 300);
        CHECKS.due("without pairs", fusion.timeOf(3), 150);
        fusion.addPair(2, 9998, 0);
        fusion.addPair(2, 9999, 2);
        fusion.report(2, 0, -600, -600);
        fusion.process();
        CHECKS.due("a negative one", fusion.timeOf(4), -19996);
    }

    private static void aClearedBatchIsNotProcessed() {
        TrackFusion fusion = new TrackFusion();
        CHECKS.due("clearBatch() when new", fusion.clearBatch(), 0);
        Runs.reportAt(fusion, 0, 1, 1, 200, 200, 300, 300);
        CHECKS.due("clearBatch()", fusion.clearBatch(), 3);
        CHECKS.due("batch()", fusion.batch(), 0);
        CHECKS.due("clearBatch() again", fusion.clearBatch(), 0);
        CHECKS.dueThrow("process()", NO_STATE, fusion::process);
        CHECKS.due("tracks()", fusion.tracks(), 0);
        CHECKS.dueThrow("takenShare()", ArithmeticException.class, fusion::takenShare);
        CHECKS.dueThrow("goesTo(0)", NO_INDEX, () -> fusion.goesTo(0));
    }

    private static void processingEmptiesTheBatch() {
        TrackFusion fusion = new TrackFusion();
        CHECKS.dueThrow("process() when new", NO_STATE, fusion::process);
        CHECKS.due("process()", Runs.processAt(fusion, 0, 0, 0, 100, 0, 200, 0), 0);
        CHECKS.due("batch()", fusion.batch(), 0);
        CHECKS.dueThrow("process() again", NO_STATE, fusion::process);
        CHECKS.due("misses(0)", fusion.misses(0), 0);
        CHECKS.due("process()", Runs.processAt(fusion, 0, 0, 0, 100, 0, 200, 0, 300, 0), 3);
        CHECKS.due("process()", Runs.processAt(fusion, 0, 301, 0, 1, 0, 101, 0, 201, 0), 4);
    }

    private static void distances() {
        TrackFusion fusion = Runs.with(20, 8, 4, 9, 0);
        Runs.processAt(fusion, 10, 0, 0);
        Runs.processAt(fusion, 12, 4, 2);
        CHECKS.due("the track", Runs.state(fusion, 0), "12: 32 16 8 4");
        Runs.reportAt(fusion, 14, 3, 1, 999, -999);
        Runs.reportAt(fusion, 8, 3, 1, -1, 0);
        CHECKS.due("distance(0, 0)", fusion.distance(0, 0), 64L);
        CHECKS.due("distance(1, 0)", fusion.distance(1, 0), 15936L * 15936L + 16008L * 16008L);
        CHECKS.due("an earlier report", fusion.distance(2, 0), 48L * 48L + 16L * 16L);
        CHECKS.due("an earlier report", fusion.distance(3, 0), 256L);
        TrackFusion swift = Runs.with(500, 16, 16, 9, 0);
        Runs.processAt(swift, 0, 0, 0);
        Runs.processAt(swift, 1, 500, 0);
        swift.report(1, 9999, -999, 0);
        long apart = -15984L - 8000L - 1600L * 9998L;
        CHECKS.due("a distance beyond an int", swift.distance(0, 0), apart * apart);
        CHECKS.due("canTake at that", swift.canTake(0, 0), false);
        CHECKS.due("goesTo at that", swift.goesTo(0), -1);
    }

    private static void distancesOfWrongNumbers() {
        TrackFusion fusion = new TrackFusion();
        Runs.processAt(fusion, 0, 0, 0);
        for (int report : new int[] {-1, 0, 4, Integer.MIN_VALUE, Integer.MAX_VALUE}) {
            refusesReport(fusion, report);
        }
        Runs.reportAt(fusion, 0, 0, 0, 1, 1);
        for (int report : new int[] {-1, 2, 3, 4, Integer.MIN_VALUE, Integer.MAX_VALUE}) {
            refusesReport(fusion, report);
        }
        for (int track : new int[] {-1, 1, 60, Integer.MIN_VALUE, Integer.MAX_VALUE}) {
            CHECKS.dueThrow("distance(1, " + track + ")", NO_TRACK, () -> fusion.distance(1, track));
            CHECKS.dueThrow("canTake(1, " + track + ")", NO_TRACK, () -> fusion.canTake(1, track));
        }
        CHECKS.due("distance(1, 0)", fusion.distance(1, 0), 512L);
    }

    private static void refusesReport(TrackFusion fusion, int report) {
        CHECKS.dueThrow("distance(" + report + ", 0)", NO_INDEX, () -> fusion.distance(report, 0));
        CHECKS.dueThrow("distance(" + report + ", 9)", NO_INDEX, () -> fusion.distance(report, 9));
        CHECKS.dueThrow("canTake(" + report + ", 0)", NO_INDEX, () -> fusion.canTake(report, 0));
        CHECKS.dueThrow("canTake(" + report + ", 9)", NO_INDEX, () -> fusion.canTake(report, 9));
        CHECKS.dueThrow("goesTo(" + report + ")", NO_INDEX, () -> fusion.goesTo(report));
    }

    private static void onlyLiveTracksHaveDistances() {
        TrackFusion fusion = Runs.with(20, 8, 4, 1, 2);
        Runs.processAt(fusion, 0, 0, 0, 500, 500, 501, 500);
        CHECKS.due("status(2)", fusion.status(2), 'm');
        Runs.processAt(fusion, 1, 0, 0);
        CHECKS.due("status(1)", fusion.status(1), 'l');
        Runs.reportAt(fusion, 1, 500, 500);
        CHECKS.dueThrow("distance of a lost one", NO_TRACK, () -> fusion.distance(0, 1));
        CHECKS.dueThrow("canTake of a lost one", NO_TRACK, () -> fusion.canTake(0, 1));
        CHECKS.dueThrow("distance of a merged one", NO_TRACK, () -> fusion.distance(0, 2));
        CHECKS.dueThrow("canTake of a merged one", NO_TRACK, () -> fusion.canTake(0, 2));
        CHECKS.due("distance of a live one", fusion.distance(0, 0), 128000000L);
        CHECKS.due("a lost or merged one takes nothing", fusion.goesTo(0), -1);
    }

    private static void tracksTakeReportsWithinGateAndTime() {
        TrackFusion fusion = Runs.with(5, 8, 4, 9, 0);
        Runs.processAt(fusion, 100, 10, 10);
        int[][] rows = {{100, 10, 10, 1}, {99, 10, 10, 0}, {101, 10, 10, 1}, {9999, 10, 10, 1}, {0, 10, 10, 0},
            {100, 15, 10, 1}, {100, 13, 14, 1}, {100, 7, 6, 1}, {100, 14, 14, 0}, {100, 15, 11, 0}, {100, 16, 10, 0},
            {100, 5, 10, 1}, {100, 10, 4, 0}};
        for (int[] row : rows) {
            fusion.clearBatch();
            Runs.reportAt(fusion, row[0], row[1], row[2]);
            String label = "at " + row[0] + ": " + row[1] + ", " + row[2];
            CHECKS.due("canTake " + label, fusion.canTake(0, 0), row[3] == 1);
            CHECKS.due("goesTo " + label, fusion.goesTo(0), row[3] - 1);
        }
    }

    private static void anEmptyBatchCostsNothing() {
        TrackFusion fusion = new TrackFusion();
        CHECKS.due("bestCost() without tracks", fusion.bestCost(), 0L);
        Runs.processAt(fusion, 0, 0, 0, 300, 0);
        CHECKS.due("bestCost()", fusion.bestCost(), 0L);
        CHECKS.due("bestCostByTrying()", fusion.bestCostByTrying(), 0L);
    }

    private static void theLeastSumCounts() {
        TrackFusion fusion = Runs.with(15, 8, 4, 9, 0);
        Runs.processAt(fusion, 0, 0, 0, 20, 0);
        Runs.reportAt(fusion, 0, 9, 0, -5, 0);
        dueCost(fusion, 256L * (121 + 25), "1 0");
        fusion.clearBatch();
        Runs.reportAt(fusion, 0, -5, 0, 9, 0);
        dueCost(fusion, 256L * (25 + 121), "0 1");
        fusion.clearBatch();
        Runs.reportAt(fusion, 0, 9, 0, 8, 0, 19, 0);
        dueCost(fusion, 256L * (225 + 64 + 1), "-1 0 1");
        fusion.clearBatch();
        Runs.reportAt(fusion, 0, 40, 0, 41, 0, 42, 0, 43, 0);
        dueCost(fusion, 4 * 57600L, "-1 -1 -1 -1");
    }

    private static void aTrackTakesOneReport() {
        TrackFusion fusion = Runs.with(20, 8, 4, 9, 0);
        Runs.processAt(fusion, 0, 0, 0);
        Runs.reportAt(fusion, 0, 3, 0, 2, 0, 1, 0, 4, 0);
        dueCost(fusion, 3 * 102400L + 256L, "-1 -1 0 -1");
        CHECKS.due("process()", fusion.process(), 1);
        CHECKS.due("tracks()", fusion.tracks(), 4);
        CHECKS.due("the second new track", Runs.state(fusion, 2), "0: 32 0 0 0");
        CHECKS.due("the third new track", Runs.state(fusion, 3), "0: 64 0 0 0");
    }

    private static void tiesGoToTheLowerTrack() {
        TrackFusion fusion = Runs.with(20, 8, 4, 9, 0);
        Runs.processAt(fusion, 0, 10, 0, 0, 0, 5, 5);
        Runs.reportAt(fusion, 0, 5, 0);
        dueCost(fusion, 256L * 25, "0");
        fusion.clearBatch();
        Runs.reportAt(fusion, 0, 5, 0, 5, 0);
        dueCost(fusion, 256L * 50, "0 1");
        fusion.clearBatch();
        Runs.reportAt(fusion, 0, 5, 0, 5, 0, 5, 0);
        dueCost(fusion, 256L * 75, "0 1 2");
        Runs.reportAt(fusion, 0, 5, 0);
        dueCost(fusion, 256L * 75 + 102400L, "0 1 2 -1");
    }

    private static void tiesGoToATrackRatherThanToNone() {
        TrackFusion fusion = Runs.with(10, 8, 4, 9, 0);
        Runs.processAt(fusion, 0, 0, 0);
        Runs.reportAt(fusion, 0, 10, 0);
        dueCost(fusion, 25600L, "0");
        Runs.reportAt(fusion, 0, -6, 8);
        dueCost(fusion, 51200L, "0 -1");
        fusion.clearBatch();
        Runs.processAt(fusion, 0, 20, 0);
        Runs.reportAt(fusion, 0, 10, 0, 10, 0, 10, 0);
        dueCost(fusion, 76800L, "0 1 -1");
    }

    private static void fourReportsAndSixTracks() {
        TrackFusion fusion = Runs.with(500, 8, 4, 9, 0);
        Runs.processAt(fusion, 0, 0, 0);
        fusion.setGate(1);
        Runs.processAt(fusion, 0, 300, 0, 0, 300, 300, 300);
        Runs.processAt(fusion, 0, 150, 150, 150, 0);
        fusion.setGate(500);
        CHECKS.due("liveTracks()", fusion.liveTracks(), 6);
        Runs.reportAt(fusion, 0, 150, 100, 150, 140, 150, 149, 150, 151);
        dueCost(fusion, 256L * (32500 + 42100 + 22201 + 1), "0 1 5 4");
        CHECKS.due("process()", fusion.process(), 4);
        CHECKS.due("account of 0", Runs.account(fusion, 0), "t 2 0 nxxh");
        CHECKS.due("account of 2", Runs.account(fusion, 2), "t 1 2 nxx");
        CHECKS.due("account of 3", Runs.account(fusion, 3), "t 1 2 nxx");
        CHECKS.due("account of 5", Runs.account(fusion, 5), "t 2 0 nh");
    }

    /** Each of the calls must look for itself, so none of them always comes first. */
    private static void dueCost(TrackFusion fusion, long cost, String goals) {
        CHECKS.due("bestCostByTrying() for " + goals, fusion.bestCostByTrying(), cost);
        CHECKS.due("goals", Runs.goals(fusion), goals);
        CHECKS.due("bestCost() for " + goals, fusion.bestCost(), cost);
        CHECKS.due("bestCostByTrying() again", fusion.bestCostByTrying(), cost);
        CHECKS.due("goals again", Runs.goals(fusion), goals);
    }

    private static void askingChangesNothing() {
        TrackFusion fusion = Runs.with(15, 8, 4, 9, 0);
        Runs.processAt(fusion, 0, 0, 0, 20, 0);
        Runs.reportAt(fusion, 2, 9, 0, -5, 0);
        for (int i = 0; i < 3; i++) {
            dueCost(fusion, 256L * (121 + 25), "1 0");
            CHECKS.due("distance(0, 1)", fusion.distance(0, 1), 256L * 121);
            CHECKS.due("batch()", fusion.batch(), 2);
            CHECKS.due("state of 0", Runs.state(fusion, 0), "0: 0 0 0 0");
            CHECKS.due("account of 0", Runs.account(fusion, 0), "t 1 0 n");
        }
        CHECKS.due("process()", fusion.process(), 2);
    }
}
