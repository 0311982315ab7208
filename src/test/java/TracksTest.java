/** Promises 11 and 18 to 31: what processing does to tracks, and all calls that ask for tracks. */
public final class TracksTest {
    private static final Checks CHECKS = new Checks();
    private static final Class<IndexOutOfBoundsException> NO_INDEX = IndexOutOfBoundsException.class;
    private static final Class<IllegalArgumentException> WRONG = IllegalArgumentException.class;
    private static final Class<java.util.NoSuchElementException> NONE = java.util.NoSuchElementException.class;

    public static void main(String[] args) {
        aTrackIsBegun();
        aTrackIsConfirmed();
        aTrackIsLost();
        missesStartAnewAfterAHit();
        atMostSixTracksAreLive();
        missesComeBeforeNewTracks();
        newTracksComeBeforeMerging();
        atMostSixtyTracksAreBegun();
        pairsAreMergedInOrder();
        oneTrackTakesInSeveral();
        mergingLooksAtTheLaterTime();
        mergingLooksAtVelocities();
        mergingLooksAtBothVelocities();
        mergedHitsConfirm();
        mergedTracksDoNotChange();
        tracksThatAreNotThere();
        partsAndSignsThatAreNotThere();
        predictionsAreRoundedDown();
        timesOfPredictions();
        qualityLooksAtEightSigns();
        aHistoryIsAsLongAsTheCallsAllow();
        signsAreCounted();
        theNearestTrack();
        theNearestTrackOfWrongPlaces();
        CHECKS.end("TracksTest");
    }

    private static void aTrackIsBegun() {
        TrackFusion fusion = new TrackFusion();
        CHECKS.due("tracks()", fusion.tracks(), 0);
        CHECKS.due("process()", Runs.processAt(fusion, 5, -999, 999, 100, -3), 0);
        CHECKS.due("tracks()", fusion.tracks(), 2);
        CHECKS.due("liveTracks()", fusion.liveTracks(), 2);
        CHECKS.due("state of 0", Runs.state(fusion, 0), "5: -15984 15984 0 0");
        CHECKS.due("state of 1", Runs.state(fusion, 1), "5: 1600 -48 0 0");
        CHECKS.due("account of 0", Runs.account(fusion, 0), "t 1 0 n");
        CHECKS.due("account of 1", Runs.account(fusion, 1), "t 1 0 n");
    }

    private static void aTrackIsConfirmed() {
        TrackFusion fusion = new TrackFusion();
        Runs.processAt(fusion, 0, 0, 0);
        Runs.processAt(fusion, 1, 0, 0);
        CHECKS.due("with two hits", Runs.account(fusion, 0), "t 2 0 nh");
        Runs.processAt(fusion, 1, 0, 0);
        CHECKS.due("with three hits", Runs.account(fusion, 0), "c 3 0 nhh");
        Runs.processAt(fusion, 0, 0, 0);
        CHECKS.due("an earlier report is a miss", Runs.account(fusion, 0), "c 4 1 nhhxg");
        CHECKS.due("and begins a track, which is merged", Runs.account(fusion, 1), "m 1 0 nm");
    }

    private static void aTrackIsLost() {
        TrackFusion fusion = new TrackFusion();
        Runs.processAt(fusion, 0, 0, 0, 300, 300);
        Runs.processAt(fusion, 1, 300, 300);
        Runs.processAt(fusion, 2, 300, 300);
        CHECKS.due("after two misses", Runs.account(fusion, 0), "t 1 2 nxx");
        CHECKS.due("liveTracks()", fusion.liveTracks(), 2);
        Runs.processAt(fusion, 3, 300, 300);
        CHECKS.due("after three misses", Runs.account(fusion, 0), "l 1 3 nxxxl");
        CHECKS.due("liveTracks()", fusion.liveTracks(), 1);
        CHECKS.due("tracks()", fusion.tracks(), 2);
        CHECKS.due("process()", Runs.processAt(fusion, 4, 0, 0, 300, 300), 1);
        CHECKS.due("a lost one does not change", Runs.account(fusion, 0), "l 1 3 nxxxl");
        CHECKS.due("nor its state", Runs.state(fusion, 0), "0: 0 0 0 0");
        CHECKS.due("a new one begins there", Runs.account(fusion, 2), "t 1 0 n");
    }

    private static void missesStartAnewAfterAHit() {
        TrackFusion fusion = new TrackFusion();
        Runs.processAt(fusion, 0, 0, 0, 300, 300);
        Runs.processAt(fusion, 1, 300, 300);
        Runs.processAt(fusion, 2, 300, 300);
        Runs.processAt(fusion, 3, 0, 0);
        CHECKS.due("misses(0)", fusion.misses(0), 0);
        CHECKS.due("misses(1)", fusion.misses(1), 1);
        Runs.processAt(fusion, 4, 300, 300);
        Runs.processAt(fusion, 5, 300, 300);
        CHECKS.due("account of 0", Runs.account(fusion, 0), "t 2 2 nxxhxx");
        CHECKS.due("account of 1", Runs.account(fusion, 1), "c 5 0 nhhxhh");
    }

    private static void atMostSixTracksAreLive() {
        TrackFusion fusion = Runs.with(1, 8, 4, 9, 0);
        Runs.processAt(fusion, 0, 0, 0, 100, 0, 200, 0, 300, 0);
        Runs.processAt(fusion, 0, 400, 0, 500, 0, 600, 0, 700, 0);
        CHECKS.due("tracks()", fusion.tracks(), 6);
        CHECKS.due("liveTracks()", fusion.liveTracks(), 6);
        CHECKS.due("dropped()", fusion.dropped(), 2);
        CHECKS.due("the last one", Runs.state(fusion, 5), "0: 8000 0 0 0");
        CHECKS.due("process()", Runs.processAt(fusion, 0, 800, 0, 500, 0), 1);
        CHECKS.due("dropped()", fusion.dropped(), 3);
        CHECKS.due("tracks()", fusion.tracks(), 6);
        CHECKS.due("isBalanced()", fusion.isBalanced(), true);
    }

    private static void missesComeBeforeNewTracks() {
        TrackFusion fusion = Runs.with(1, 8, 4, 1, 0);
        Runs.processAt(fusion, 0, 0, 0, 100, 0, 200, 0, 300, 0);
        CHECKS.due("process()", Runs.processAt(fusion, 0, 0, 0, 100, 0, 200, 0, 400, 0), 3);
        CHECKS.due("liveTracks()", fusion.liveTracks(), 4);
        CHECKS.due("process()", Runs.processAt(fusion, 0, 500, 0, 600, 0, 700, 0, 800, 0), 0);
        CHECKS.due("liveTracks()", fusion.liveTracks(), 4);
        CHECKS.due("dropped()", fusion.dropped(), 0);
        CHECKS.due("a new one has no miss", Runs.account(fusion, 8), "t 1 0 n");
        CHECKS.due("the old ones", Runs.account(fusion, 0), "l 2 1 nhxl");
    }

    private static void newTracksComeBeforeMerging() {
        TrackFusion fusion = Runs.with(1, 8, 4, 9, 50);
        Runs.processAt(fusion, 0, 0, 0, 100, 0, 200, 0, 300, 0);
        Runs.processAt(fusion, 0, 400, 0);
        Runs.processAt(fusion, 0, 410, 0, 420, 0, 430, 0);
        CHECKS.due("only one had room", fusion.dropped(), 2);
        CHECKS.due("tracks()", fusion.tracks(), 6);
        CHECKS.due("liveTracks()", fusion.liveTracks(), 5);
        CHECKS.due("the one taken in", Runs.account(fusion, 5), "m 1 0 nm");
        CHECKS.due("the one that took it in", Runs.account(fusion, 4), "t 2 1 nxg");
        Runs.processAt(fusion, 0, 500, 0);
        CHECKS.due("room again", fusion.tracks(), 7);
    }

    private static void atMostSixtyTracksAreBegun() {
        TrackFusion fusion = Runs.with(1, 8, 4, 1, 0);
        for (int i = 0; i < 14; i++) {
            Runs.processAt(fusion, i, -900, i, -800, i, -700, i * 10 + 100, -600, i * 10 + 100);
            fusion.setLimit(1);
            Runs.processAt(fusion, 9000, 900, -900 + 20 * i);
        }
        CHECKS.due("tracks()", fusion.tracks(), 60);
        CHECKS.due("dropped()", fusion.dropped(), 10);
        CHECKS.due("liveTracks()", fusion.liveTracks(), 0);
        CHECKS.due("status(59)", fusion.status(59), 'l');
        CHECKS.dueThrow("status(60)", NO_INDEX, () -> fusion.status(60));
        CHECKS.due("countOf('n')", fusion.countOf('n'), 60);
        CHECKS.due("isBalanced()", fusion.isBalanced(), true);
        CHECKS.dueThrow("meanHits()", ArithmeticException.class, fusion::meanHits);
        CHECKS.dueThrow("nearest(0, 0, 0)", NONE, () -> fusion.nearest(0, 0, 0));
    }

    /** Each row: three first coordinates, and what becomes of the three tracks with a nearness of 2. */
    private static void pairsAreMergedInOrder() {
        Object[][] rows = {
            {0, 2, 4, "t 2 0 ng", "m 1 0 nm", "t 1 0 n"}, {0, 3, 5, "t 1 0 n", "t 2 0 ng", "m 1 0 nm"},
            {0, 5, 1, "t 2 0 ng", "t 1 0 n", "m 1 0 nm"}, {0, 1, 2, "c 3 0 ngg", "m 1 0 nm", "m 1 0 nm"},
            {4, 2, 0, "t 2 0 ng", "m 1 0 nm", "t 1 0 n"}, {2, 0, 4, "c 3 0 ngg", "m 1 0 nm", "m 1 0 nm"},
            {0, 3, 6, "t 1 0 n", "t 1 0 n", "t 1 0 n"},
        };
        for (Object[] row : rows) {
            TrackFusion fusion = new TrackFusion();
            Runs.processAt(fusion, 0, (Integer) row[0], 0, (Integer) row[1], 0, (Integer) row[2], 0);
            for (int track = 0; track < 3; track++) {
                CHECKS.due(row[0] + " " + row[1] + " " + row[2] + ", " + track, Runs.account(fusion, track),
                    row[3 + track]);
            }
        }
    }

    private static void oneTrackTakesInSeveral() {
        TrackFusion fusion = Runs.with(1, 8, 4, 3, 100);
        Runs.processAt(fusion, 0, 900, 0, 0, 0, 10, 0, 20, 0);
        CHECKS.dueThrow("mergedInto(0)", NONE, () -> fusion.mergedInto(0));
        CHECKS.dueThrow("mergedInto(1)", NONE, () -> fusion.mergedInto(1));
        CHECKS.due("mergedInto(2)", fusion.mergedInto(2), 1);
        CHECKS.due("mergedInto(3)", fusion.mergedInto(3), 1);
        CHECKS.due("account of 1", Runs.account(fusion, 1), "c 3 0 ngg");
        CHECKS.due("state of 1", Runs.state(fusion, 1), "0: 0 0 0 0");
        Runs.processAt(fusion, 5, 850, 0);
        CHECKS.due("mergedInto(4)", fusion.mergedInto(4), 0);
        CHECKS.due("state of 0", Runs.state(fusion, 0), "0: 14400 0 0 0");
        CHECKS.due("state of 4", Runs.state(fusion, 4), "5: 13600 0 0 0");
    }

    /** At 22 the first track is predicted at 112 and 56 sixteenths. */
    private static TrackFusion moving(int nearness) {
        TrackFusion fusion = Runs.moving(nearness);
        CHECKS.due("the moving one", Runs.state(fusion, 0), "12: 32 16 8 4");
        fusion.setGate(1);
        return fusion;
    }

    private static void mergingLooksAtTheLaterTime() {
        TrackFusion fusion = moving(3);
        Runs.processAt(fusion, 22, 9, 3);
        CHECKS.due("where it will be", Runs.account(fusion, 0), "c 3 1 nhxg");
        CHECKS.due("the other one", Runs.account(fusion, 1), "m 1 0 nm");
        CHECKS.due("nothing else changes", Runs.state(fusion, 0), "12: 32 16 8 4");
        fusion = moving(3);
        Runs.processAt(fusion, 22, 10, 3);
        CHECKS.due("a little too far", Runs.account(fusion, 0), "t 2 1 nhx");
        fusion = moving(3);
        Runs.processAt(fusion, 22, 2, 1);
        CHECKS.due("where it was", Runs.account(fusion, 0), "t 2 1 nhx");
        fusion = moving(0);
        Runs.processAt(fusion, 4, 2, 1);
        CHECKS.due("an earlier one stands there at the later time", Runs.account(fusion, 0), "c 3 1 nhxg");
        fusion = moving(0);
        Runs.processAt(fusion, 8, 0, 0);
        CHECKS.due("not where it was earlier", Runs.account(fusion, 0), "t 2 1 nhx");
    }

    private static void mergingLooksAtVelocities() {
        int[][] rows = {{16, 0, 1}, {17, 0, 0}, {-16, 0, 1}, {0, -17, 0}, {8, 8, 1}, {8, -8, 1}, {9, 8, 0}, {-8, 9, 0},
            {-12, -4, 1}, {-12, -5, 0}};
        for (int[] row : rows) {
            TrackFusion fusion = Runs.with(500, 16, 16, 9, 0);
            Runs.processAt(fusion, 0, 0, 0);
            Runs.processAt(fusion, 16, row[0], row[1]);
            CHECKS.due("velocity", Runs.state(fusion, 0), "16: " + 16 * row[0] + " " + 16 * row[1] + " " + row[0]
                + " " + row[1]);
            fusion.setGate(1);
            Runs.processAt(fusion, 0, row[0], row[1]);
            CHECKS.due("velocities " + row[0] + " and " + row[1] + " apart", fusion.liveTracks(), 2 - row[2]);
        }
    }

    /** Each row: the velocities of two tracks, and whether they are alike enough. */
    private static void mergingLooksAtBothVelocities() {
        int[][] rows = {{10, 0, -6, 0, 1}, {10, 0, -7, 0, 0}, {-10, 0, 6, 0, 1}, {-10, 0, 7, 0, 0}, {0, 8, 0, -8, 1},
            {0, 8, 0, -9, 0}, {10, 10, 10, 10, 1}, {-10, -10, -10, -10, 1}, {10, -10, 10, -10, 1}, {9, 9, 1, 1, 1},
            {9, 9, 1, 0, 0}, {9, 9, 0, 1, 0}, {10, -3, 2, 5, 1}, {10, -3, 2, 6, 0}};
        for (int[] row : rows) {
            TrackFusion fusion = Runs.with(30, 16, 16, 9, 0);
            Runs.processAt(fusion, 0, 0, 0, 60, 0);
            Runs.processAt(fusion, 16, row[0], row[1], 60 + row[2], row[3]);
            CHECKS.due("velocity of 0", fusion.stateOf(0, 2) + " " + fusion.stateOf(0, 3), row[0] + " " + row[1]);
            CHECKS.due("velocity of 1", fusion.stateOf(1, 2) + " " + fusion.stateOf(1, 3), row[2] + " " + row[3]);
            fusion.setNearness(100);
            Runs.processAt(fusion, 16, 900, 900);
            CHECKS.due("status(1) at " + row[0] + " " + row[1] + ", " + row[2] + " " + row[3], fusion.status(1),
                row[4] == 1 ? 'm' : 't');
        }
    }

    private static void mergedHitsConfirm() {
        TrackFusion fusion = new TrackFusion();
        Runs.processAt(fusion, 5, 0, 0);
        Runs.processAt(fusion, 5, 0, 0);
        Runs.processAt(fusion, 4, 0, 0, 0, 2);
        CHECKS.due("hits are added", Runs.account(fusion, 0), "c 4 1 nhxgg");
        CHECKS.due("meanHits()", fusion.meanHits(), 4.0);
    }

    private static void mergedTracksDoNotChange() {
        TrackFusion fusion = Runs.with(20, 8, 4, 1, 5);
        Runs.processAt(fusion, 3, 100, 100, 103, 104);
        for (int i = 0; i < 3; i++) {
            Runs.processAt(fusion, 4 + i, 103, 104);
        }
        CHECKS.due("account of 1", Runs.account(fusion, 1), "m 1 0 nm");
        CHECKS.due("state of 1", Runs.state(fusion, 1), "3: 1648 1664 0 0");
        CHECKS.due("predicted(1, 9, true)", fusion.predicted(1, 9, true), 104);
        CHECKS.due("account of 0", Runs.account(fusion, 0), "c 5 0 nghhh");
        Runs.processAt(fusion, 7, 900, 900);
        CHECKS.due("the lost one keeps its hits", Runs.account(fusion, 0), "l 5 1 nghhhxl");
        CHECKS.due("mergedInto(1) still", fusion.mergedInto(1), 0);
        CHECKS.dueThrow("mergedInto(0)", NONE, () -> fusion.mergedInto(0));
        CHECKS.dueThrow("mergedInto(2)", NONE, () -> fusion.mergedInto(2));
    }

    private static void tracksThatAreNotThere() {
        TrackFusion fusion = new TrackFusion();
        refusesTracks(fusion, -1, 0, 1, 59, 60, Integer.MIN_VALUE, Integer.MAX_VALUE);
        Runs.processAt(fusion, 0, 0, 0, 100, 100);
        refusesTracks(fusion, -1, 2, 59, 60, 61, Integer.MIN_VALUE, Integer.MAX_VALUE);
        CHECKS.due("status(1)", fusion.status(1), 't');
    }

    private static void refusesTracks(TrackFusion fusion, int... tracks) {
        for (int track : tracks) {
            String of = " of " + track;
            CHECKS.dueThrow("status" + of, NO_INDEX, () -> fusion.status(track));
            CHECKS.dueThrow("timeOf" + of, NO_INDEX, () -> fusion.timeOf(track));
            CHECKS.dueThrow("stateOf" + of, NO_INDEX, () -> fusion.stateOf(track, 0));
            CHECKS.dueThrow("stateOf, part 4" + of, NO_INDEX, () -> fusion.stateOf(track, 4));
            CHECKS.dueThrow("predicted" + of, NO_INDEX, () -> fusion.predicted(track, 0, true));
            CHECKS.dueThrow("predicted at 40000" + of, NO_INDEX, () -> fusion.predicted(track, 40000, false));
            CHECKS.dueThrow("hits" + of, NO_INDEX, () -> fusion.hits(track));
            CHECKS.dueThrow("misses" + of, NO_INDEX, () -> fusion.misses(track));
            CHECKS.dueThrow("mergedInto" + of, NO_INDEX, () -> fusion.mergedInto(track));
            CHECKS.dueThrow("historyLength" + of, NO_INDEX, () -> fusion.historyLength(track));
            CHECKS.dueThrow("historyAt" + of, NO_INDEX, () -> fusion.historyAt(track, 0));
            CHECKS.dueThrow("historyAt -1" + of, NO_INDEX, () -> fusion.historyAt(track, -1));
            CHECKS.dueThrow("quality" + of, NO_INDEX, () -> fusion.quality(track));
        }
    }

    private static void partsAndSignsThatAreNotThere() {
        TrackFusion fusion = new TrackFusion();
        Runs.processAt(fusion, 0, 1, 2);
        Runs.processAt(fusion, 1, 1, 2);
        for (int part : new int[] {-1, 4, 5, Integer.MIN_VALUE, Integer.MAX_VALUE}) {
            CHECKS.dueThrow("stateOf(0, " + part + ")", WRONG, () -> fusion.stateOf(0, part));
        }
        for (int index : new int[] {-1, 2, 3, 600, Integer.MIN_VALUE, Integer.MAX_VALUE}) {
            CHECKS.dueThrow("historyAt(0, " + index + ")", NONE, () -> fusion.historyAt(0, index));
        }
        CHECKS.due("historyAt(0, 0)", fusion.historyAt(0, 0), 'n');
        CHECKS.due("historyAt(0, 1)", fusion.historyAt(0, 1), 'h');
        CHECKS.due("historyLength(0)", fusion.historyLength(0), 2);
    }

    private static void predictionsAreRoundedDown() {
        TrackFusion fusion = Runs.with(500, 16, 16, 9, 0);
        Runs.processAt(fusion, 0, 0, 0);
        Runs.processAt(fusion, 16, 3, -5);
        CHECKS.due("the track", Runs.state(fusion, 0), "16: 48 -80 3 -5");
        int[][] rows = {{16, 3, -5}, {17, 3, -6}, {21, 3, -7}, {22, 4, -7}, {15, 2, -5}, {0, 0, 0}, {-1, -1, 0},
            {-5, -1, 1}, {-6, -2, 1}, {39999, 7499, -12500}, {-9999, -1875, 3124}};
        for (int[] row : rows) {
            CHECKS.due("first at " + row[0], fusion.predicted(0, row[0], false), row[1]);
            CHECKS.due("second at " + row[0], fusion.predicted(0, row[0], true), row[2]);
        }
    }

    private static void timesOfPredictions() {
        TrackFusion fusion = Runs.with(500, 16, 16, 9, 0);
        Runs.processAt(fusion, 0, 0, 0);
        for (int time : new int[] {-10000, 40000, Integer.MIN_VALUE, Integer.MAX_VALUE}) {
            CHECKS.dueThrow("predicted at " + time, WRONG, () -> fusion.predicted(0, time, false));
            CHECKS.dueThrow("predicted at " + time, WRONG, () -> fusion.predicted(0, time, true));
        }
        CHECKS.due("at -9999", fusion.predicted(0, -9999, true), 0);
        CHECKS.due("at 39999", fusion.predicted(0, 39999, true), 0);
        Runs.processAt(fusion, 1, 300, -400);
        CHECKS.due("a swift one", Runs.state(fusion, 0), "1: 4800 -6400 1600 -1600");
        CHECKS.due("first at 39999", fusion.predicted(0, 39999, false), 4000100);
        CHECKS.due("second at 39999", fusion.predicted(0, 39999, true), -4000200);
        CHECKS.due("first at -9999", fusion.predicted(0, -9999, false), -999700);
        CHECKS.due("second at -9999", fusion.predicted(0, -9999, true), 999600);
        fusion.setLimit(1);
        Runs.processAt(fusion, 0, 0, 0);
        CHECKS.due("a lost one", fusion.status(0), 'l');
        CHECKS.due("first of a lost one", fusion.predicted(0, 2, false), 400);
    }

    private static void qualityLooksAtEightSigns() {
        TrackFusion fusion = Runs.with(20, 8, 4, 9, 2);
        Runs.processAt(fusion, 0, 0, 0);
        CHECKS.due("n", fusion.quality(0), 1);
        for (int i = 1; i <= 7; i++) {
            Runs.processAt(fusion, 10, 0, 0);
            CHECKS.due("n and " + i + " times h", fusion.quality(0), i + 1);
        }
        Runs.processAt(fusion, 10, 0, 0);
        CHECKS.due("8 times h", fusion.quality(0), 8);
        Runs.processAt(fusion, 10, 500, 500);
        CHECKS.due("7 times h, and x", fusion.quality(0), 7);
        Runs.processAt(fusion, 9, 0, 0);
        CHECKS.due("5 times h, x, x, g", Runs.account(fusion, 0), "c 10 2 nhhhhhhhhxxg");
        CHECKS.due("5 times h, x, x, g", fusion.quality(0), 5);
        CHECKS.due("quality of a merged one", fusion.quality(2), 1);
        Runs.processAt(fusion, 10, 500, 500);
        CHECKS.due("n, x, h", fusion.quality(1), 2);
    }

    /** With 512 calls in all. */
    private static void aHistoryIsAsLongAsTheCallsAllow() {
        TrackFusion fusion = new TrackFusion();
        for (int i = 0; i < 254; i++) {
            Runs.processAt(fusion, i, 5, 5);
        }
        CHECKS.due("historyLength(0)", fusion.historyLength(0), 254);
        CHECKS.due("historyAt(0, 253)", fusion.historyAt(0, 253), 'h');
        CHECKS.due("countOf('h')", fusion.countOf('h'), 253);
        CHECKS.due("isBalanced()", fusion.isBalanced(), true);
    }

    private static void signsAreCounted() {
        TrackFusion fusion = Runs.with(20, 8, 4, 2, 2);
        Runs.processAt(fusion, 0, 0, 0, 500, 500, 501, 500, 502, 500);
        Runs.processAt(fusion, 1, 0, 0);
        Runs.processAt(fusion, 2, 0, 0);
        CHECKS.due("account of 1", Runs.account(fusion, 1), "l 3 2 nggxxl");
        int[] counts = {4, 2, 2, 1, 2, 2};
        for (int i = 0; i < 6; i++) {
            char sign = "nhxlmg".charAt(i);
            CHECKS.due("countOf(" + sign + ")", fusion.countOf(sign), counts[i]);
        }
        for (char sign : new char[] {'N', 'H', 'a', 'c', 't', 'k', 'o', 'y', ' ', 0, 1, 128, 255, 256 + 'n', 65535}) {
            CHECKS.dueThrow("countOf of sign " + (int) sign, WRONG, () -> fusion.countOf(sign));
        }
    }

    private static void theNearestTrack() {
        TrackFusion fusion = Runs.with(500, 16, 16, 1, 0);
        Runs.processAt(fusion, 0, 100, 0);
        Runs.processAt(fusion, 16, 116, -32);
        fusion.setGate(1);
        fusion.setLimit(9);
        Runs.processAt(fusion, 0, 0, 0, 0, 50);
        CHECKS.due("nearest(16, 116, -32)", fusion.nearest(16, 116, -32), 0);
        CHECKS.due("nearest(-84, 16, 168)", fusion.nearest(-84, 16, 168), 0);
        CHECKS.due("nearest(0, 49, 0)", fusion.nearest(0, 49, 0), 1);
        CHECKS.due("the lower of two, at the same distance", fusion.nearest(0, 50, 0), 0);
        CHECKS.due("the lower of two, at the same distance", fusion.nearest(9999, 0, 25), 1);
        CHECKS.due("nearest(9999, 0, 26)", fusion.nearest(9999, 0, 26), 2);
        CHECKS.due("nearest(39999, 999, -999)", fusion.nearest(39999, 999, -999), 1);
        CHECKS.due("nearest(-9999, -999, 999)", fusion.nearest(-9999, -999, 999), 2);
        fusion.setLimit(1);
        Runs.processAt(fusion, 0, 0, 50);
        CHECKS.due("liveTracks()", fusion.liveTracks(), 1);
        CHECKS.due("only a live one", fusion.nearest(0, 0, 0), 2);
    }

    private static void theNearestTrackOfWrongPlaces() {
        TrackFusion fusion = new TrackFusion();
        refusesPlaces(fusion);
        CHECKS.dueThrow("nearest without tracks", NONE, () -> fusion.nearest(0, 0, 0));
        CHECKS.dueThrow("nearest at the edges", NONE, () -> fusion.nearest(-9999, -999, 999));
        CHECKS.dueThrow("nearest at the edges", NONE, () -> fusion.nearest(39999, 999, -999));
        Runs.processAt(fusion, 0, 0, 0);
        refusesPlaces(fusion);
        CHECKS.due("nearest at the edges", fusion.nearest(-9999, -999, 999), 0);
        CHECKS.due("nearest at the edges", fusion.nearest(39999, 999, -999), 0);
    }

    private static void refusesPlaces(TrackFusion fusion) {
        for (int time : new int[] {-10000, 40000, Integer.MIN_VALUE, Integer.MAX_VALUE}) {
            CHECKS.dueThrow("nearest at " + time, WRONG, () -> fusion.nearest(time, 0, 0));
        }
        for (int place : new int[] {-1000, 1000, Integer.MIN_VALUE, Integer.MAX_VALUE}) {
            CHECKS.dueThrow("nearest, x " + place, WRONG, () -> fusion.nearest(0, place, 0));
            CHECKS.dueThrow("nearest, y " + place, WRONG, () -> fusion.nearest(0, 0, place));
        }
    }
}
