/** Promises 5 to 8: setGate, setFilter, setLimit, setNearness, and what the settings do. */
public final class SettingsTest {
    private static final Checks CHECKS = new Checks();
    private static final Class<IllegalArgumentException> WRONG = IllegalArgumentException.class;

    public static void main(String[] args) {
        theSettingBeforeIsAnswered();
        settingsOutOfRangeAreRefused();
        theGateCountsAtOnce();
        theFilterRoundsTowardZero();
        theFilterIsThatOfTheProcessing();
        aReportAtTheTracksTimeLeavesTheVelocity();
        theVelocityStaysWithinBounds();
        theLimitCountsAtTheNextMiss();
        nearnessDecidesMerging();
        CHECKS.end("SettingsTest");
    }

    private static void theSettingBeforeIsAnswered() {
        TrackFusion fusion = new TrackFusion();
        CHECKS.due("setGate(1)", fusion.setGate(1), 20);
        CHECKS.due("setGate(500)", fusion.setGate(500), 1);
        CHECKS.due("setGate(500)", fusion.setGate(500), 500);
        CHECKS.due("setFilter(1, 0)", fusion.setFilter(1, 0), 804);
        CHECKS.due("setFilter(16, 16)", fusion.setFilter(16, 16), 100);
        CHECKS.due("setFilter(2, 3)", fusion.setFilter(2, 3), 1616);
        CHECKS.due("setFilter(8, 4)", fusion.setFilter(8, 4), 203);
        CHECKS.due("setLimit(1)", fusion.setLimit(1), 3);
        CHECKS.due("setLimit(9)", fusion.setLimit(9), 1);
        CHECKS.due("setLimit(5)", fusion.setLimit(5), 9);
        CHECKS.due("setNearness(0)", fusion.setNearness(0), 2);
        CHECKS.due("setNearness(100)", fusion.setNearness(100), 0);
        CHECKS.due("setNearness(7)", fusion.setNearness(7), 100);
        CHECKS.due("setGate(20)", fusion.setGate(20), 500);
    }

    private static void settingsOutOfRangeAreRefused() {
        TrackFusion fusion = Runs.with(33, 5, 6, 7, 8);
        for (int wrong : new int[] {0, -1, 501, Integer.MIN_VALUE, Integer.MAX_VALUE}) {
            CHECKS.dueThrow("setGate(" + wrong + ")", WRONG, () -> fusion.setGate(wrong));
        }
        for (int wrong : new int[] {0, -1, 17, Integer.MIN_VALUE, Integer.MAX_VALUE}) {
            CHECKS.dueThrow("setFilter(" + wrong + ", 1)", WRONG, () -> fusion.setFilter(wrong, 1));
            CHECKS.dueThrow("setFilter(" + wrong + ", 17)", WRONG, () -> fusion.setFilter(wrong, 17));
        }
        for (int wrong : new int[] {-1, 17, Integer.MIN_VALUE, Integer.MAX_VALUE}) {
            CHECKS.dueThrow("setFilter(1, " + wrong + ")", WRONG, () -> fusion.setFilter(1, wrong));
        }
        for (int wrong : new int[] {0, -1, 10, Integer.MIN_VALUE, Integer.MAX_VALUE}) {
            CHECKS.dueThrow("setLimit(" + wrong + ")", WRONG, () -> fusion.setLimit(wrong));
        }
        for (int wrong : new int[] {-1, 101, Integer.MIN_VALUE, Integer.MAX_VALUE}) {
            CHECKS.dueThrow("setNearness(" + wrong + ")", WRONG, () -> fusion.setNearness(wrong));
        }
        CHECKS.due("the gate is as before", fusion.setGate(20), 33);
        CHECKS.due("the filter is as before", fusion.setFilter(8, 4), 506);
        CHECKS.due("the limit is as before", fusion.setLimit(3), 7);
        CHECKS.due("the nearness is as before", fusion.setNearness(2), 8);
    }

    private static void theGateCountsAtOnce() {
        TrackFusion fusion = new TrackFusion();
        Runs.processAt(fusion, 0, 0, 0);
        Runs.reportAt(fusion, 1, 20, 0);
        CHECKS.due("at the first gate", fusion.canTake(0, 0), true);
        CHECKS.due("bestCost()", fusion.bestCost(), 102400L);
        fusion.setGate(19);
        CHECKS.due("within a smaller gate", fusion.canTake(0, 0), false);
        CHECKS.due("bestCost()", fusion.bestCost(), 92416L);
        CHECKS.due("bestCostByTrying()", fusion.bestCostByTrying(), 92416L);
        CHECKS.due("goesTo(0)", fusion.goesTo(0), -1);
        fusion.setGate(21);
        CHECKS.due("goesTo(0)", fusion.goesTo(0), 0);
        CHECKS.due("process()", fusion.process(), 1);
    }

    private static void theFilterRoundsTowardZero() {
        TrackFusion fusion = Runs.with(500, 5, 7, 3, 0);
        Runs.processAt(fusion, 0, 0, 0);
        CHECKS.due("a new track", Runs.state(fusion, 0), "0: 0 0 0 0");
        Runs.processAt(fusion, 3, 10, -10);
        CHECKS.due("residuals of 160", Runs.state(fusion, 0), "3: 50 -50 23 -23");
        Runs.processAt(fusion, 4, 4, -4);
        CHECKS.due("residuals of 9", Runs.state(fusion, 0), "4: 71 -71 20 -20");
        fusion.setFilter(16, 16);
        Runs.processAt(fusion, 7, -5, 5);
        CHECKS.due("all of the residuals", Runs.state(fusion, 0), "7: -80 80 -50 50");
        fusion.setFilter(1, 0);
        Runs.processAt(fusion, 8, 0, 0);
        CHECKS.due("a slope of 0", Runs.state(fusion, 0), "8: -122 122 -50 50");
    }

    private static void theFilterIsThatOfTheProcessing() {
        TrackFusion fusion = new TrackFusion();
        Runs.processAt(fusion, 0, 0, 0);
        fusion.setFilter(1, 1);
        Runs.reportAt(fusion, 2, 4, 2);
        fusion.setFilter(8, 4);
        fusion.process();
        CHECKS.due("the first filter", Runs.state(fusion, 0), "2: 32 16 8 4");
    }

    private static void aReportAtTheTracksTimeLeavesTheVelocity() {
        TrackFusion fusion = Runs.with(20, 8, 4, 3, 0);
        Runs.processAt(fusion, 10, 0, 0);
        Runs.processAt(fusion, 12, 4, 2);
        CHECKS.due("process()", Runs.processAt(fusion, 12, 10, -10), 1);
        CHECKS.due("at the same time", Runs.state(fusion, 0), "12: 96 -72 8 4");
        CHECKS.due("its account", Runs.account(fusion, 0), "c 3 0 nhh");
    }

    private static void theVelocityStaysWithinBounds() {
        TrackFusion fusion = Runs.with(500, 1, 16, 9, 0);
        Runs.processAt(fusion, 0, 0, 0);
        Runs.processAt(fusion, 1, 100, -100);
        CHECKS.due("just at the bounds", Runs.state(fusion, 0), "1: 100 -100 1600 -1600");
        Runs.processAt(fusion, 2, 107, -107);
        CHECKS.due("no further", Runs.state(fusion, 0), "2: 1700 -1700 1600 -1600");
        Runs.processAt(fusion, 3, 200, -200);
        CHECKS.due("but back", Runs.state(fusion, 0), "3: 3294 -3294 1500 -1500");
        fusion = Runs.with(500, 16, 16, 9, 0);
        Runs.processAt(fusion, 0, 0, 0);
        Runs.processAt(fusion, 1, -500, 0);
        CHECKS.due("below the least", Runs.state(fusion, 0), "1: -8000 0 -1600 0");
        fusion = Runs.with(500, 16, 16, 9, 0);
        Runs.processAt(fusion, 0, 0, 0);
        Runs.processAt(fusion, 1, 0, 500);
        CHECKS.due("above the greatest", Runs.state(fusion, 0), "1: 0 8000 0 1600");
    }

    private static void theLimitCountsAtTheNextMiss() {
        TrackFusion fusion = Runs.with(1, 8, 4, 9, 0);
        Runs.processAt(fusion, 0, 0, 0);
        for (int i = 0; i < 5; i++) {
            Runs.processAt(fusion, i, 100 + 50 * i, 100);
        }
        CHECKS.due("five misses", Runs.account(fusion, 0), "t 1 5 nxxxxx");
        fusion.setLimit(2);
        CHECKS.due("still live", Runs.account(fusion, 0), "t 1 5 nxxxxx");
        CHECKS.due("liveTracks()", fusion.liveTracks(), 6);
        CHECKS.due("process()", Runs.processAt(fusion, 5, 0, 0), 1);
        CHECKS.due("a hit keeps it", Runs.account(fusion, 0), "t 2 0 nxxxxxh");
        CHECKS.due("the others go", Runs.account(fusion, 1), "l 1 5 nxxxxxl");
        CHECKS.due("with two misses too", Runs.account(fusion, 4), "l 1 2 nxxl");
        CHECKS.due("not with one", Runs.account(fusion, 5), "t 1 1 nx");
        fusion.setLimit(1);
        Runs.processAt(fusion, 6, 900, 900);
        CHECKS.due("at its first miss", Runs.account(fusion, 0), "l 2 1 nxxxxxhxl");
    }

    private static void nearnessDecidesMerging() {
        int[][] rows = {{0, 0, 0, 1}, {0, 1, 0, 0}, {2, 2, 0, 1}, {2, 2, 1, 0}, {5, 3, 4, 1}, {5, -3, -4, 1},
            {4, 3, 4, 0}, {100, 60, 80, 1}, {100, 60, 81, 0}};
        for (int[] row : rows) {
            TrackFusion fusion = Runs.with(1, 8, 4, 3, row[0]);
            Runs.processAt(fusion, 0, 7, 7, 7 + row[1], 7 + row[2]);
            String label = "nearness " + row[0] + ", " + row[1] + " and " + row[2] + " apart";
            CHECKS.due(label, fusion.liveTracks(), 2 - row[3]);
            CHECKS.due(label, fusion.status(1), row[3] == 1 ? 'm' : 't');
        }
    }
}
