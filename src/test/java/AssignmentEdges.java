/** The edges of assignments: promises 15 to 17, and what the terms say of them. */
final class AssignmentEdges {
    private static final Class<IndexOutOfBoundsException> NO_INDEX = IndexOutOfBoundsException.class;

    private AssignmentEdges() {
    }

    /** Both ways of finding the cost, and the goals; none of them may lean on another one's call before. */
    private static void due(Edges edges, TrackFusion fusion, long cost, String goals) {
        edges.due("bestCostByTrying() for " + goals, fusion.bestCostByTrying(), cost);
        edges.due("the goals", Runs.goals(fusion), goals);
        edges.due("bestCost() for " + goals, fusion.bestCost(), cost);
        edges.due("bestCostByTrying() for " + goals + " again", fusion.bestCostByTrying(), cost);
    }

    /** Tracks at these places at the time 0, which come in pairs of coordinates; merging is as good as off. */
    private static TrackFusion withTracks(int gate, int... places) {
        TrackFusion fusion = Runs.with(1, 8, 4, 9, 0);
        for (int i = 0; i < places.length; i += 2) {
            Runs.processAt(fusion, 0, places[i], places[i + 1]);
        }
        fusion.setGate(gate);
        return fusion;
    }

    @Sentence(of = "Terms", says = "A report belongs to one track at most")
    static void termsOneTrackAtMost(Edges edges) {
        TrackFusion fusion = withTracks(20, 0, 0, 10, 0);
        Runs.reportAt(fusion, 0, 5, 0);
        edges.due("canTake(0, 0)", fusion.canTake(0, 0), true);
        edges.due("canTake(0, 1)", fusion.canTake(0, 1), true);
        edges.due("process()", fusion.process(), 1);
        edges.due("the one", Runs.account(fusion, 0), "t 2 0 nxh");
        edges.due("the other", Runs.account(fusion, 1), "t 1 1 nx");
        edges.due("tracks()", fusion.tracks(), 2);
    }

    @Sentence(of = "Terms: Assignments", says = "or that it goes to none")
    static void termsNone(Edges edges) {
        TrackFusion none = new TrackFusion();
        Runs.reportAt(none, 0, 0, 0, 0, 0, 0, 0, 0, 0);
        due(edges, none, 4 * 102400L, "-1 -1 -1 -1");
        TrackFusion far = withTracks(10, 0, 0);
        Runs.reportAt(far, 0, 10, 1);
        due(edges, far, 25600L, "-1");
    }

    @Sentence(of = "Terms: Assignments", says = "each track can take the report that goes to it")
    static void termsCanTake(Edges edges) {
        TrackFusion fusion = new TrackFusion();
        Runs.processAt(fusion, 100, 0, 0);
        Runs.reportAt(fusion, 99, 0, 0);
        due(edges, fusion, 102400L, "-1");
        fusion.clearBatch();
        Runs.reportAt(fusion, 100, 20, 1);
        due(edges, fusion, 102400L, "-1");
        fusion.clearBatch();
        Runs.reportAt(fusion, 100, 20, 0);
        due(edges, fusion, 102400L, "0");
        fusion.clearBatch();
        Runs.reportAt(fusion, 100, 19, 0);
        due(edges, fusion, 256L * 361, "0");
    }

    @Sentence(of = "Terms: Assignments", says = "and no two reports go to the same track")
    static void termsNoTwoReports(Edges edges) {
        TrackFusion fusion = withTracks(20, 0, 0);
        Runs.reportAt(fusion, 0, 3, 0, 2, 0, 1, 0, 4, 0);
        due(edges, fusion, 256L + 3 * 102400L, "-1 -1 0 -1");
        fusion.clearBatch();
        Runs.reportAt(fusion, 0, 0, 0, 0, 0);
        due(edges, fusion, 102400L, "0 -1");
        edges.due("process()", fusion.process(), 1);
        edges.due("hits(0)", fusion.hits(0), 3);
    }

    @Sentence(of = "Terms: Assignments", says = "Its cost is the sum of the distances of all reports that go to a track")
    static void termsCostOfTracks(Edges edges) {
        TrackFusion fusion = withTracks(20, 0, 0, 100, 0, 200, 0, 300, 0);
        Runs.reportAt(fusion, 0, 0, 0, 100, 0, 200, 0, 300, 0);
        due(edges, fusion, 0L, "0 1 2 3");
        fusion.clearBatch();
        Runs.reportAt(fusion, 0, 1, 0, 100, 2, 203, 0, 300, 20);
        due(edges, fusion, 256L * (1 + 4 + 9 + 400), "0 1 2 3");
    }

    @Sentence(of = "Terms: Assignments", says = "and of the square of 16 times the gate for each one that goes to none")
    static void termsCostOfNone(Edges edges) {
        for (int gate : new int[] {1, 20, 500}) {
            TrackFusion fusion = new TrackFusion();
            fusion.setGate(gate);
            long none = 256L * gate * gate;
            StringBuilder goals = new StringBuilder();
            for (int reports = 1; reports <= 4; reports++) {
                fusion.report(0, 0, 999, 999);
                goals.append(reports == 1 ? "-1" : " -1");
                due(edges, fusion, reports * none, goals.toString());
            }
        }
        TrackFusion mixed = withTracks(10, 0, 0);
        Runs.reportAt(mixed, 0, 0, 3, 50, 50);
        due(edges, mixed, 256L * 9 + 25600L, "0 -1");
    }

    @Sentence(of = "Terms: Assignments", says = "The best assignment is the one with the least cost")
    static void termsLeastCost(Edges edges) {
        TrackFusion fusion = withTracks(15, 0, 0, 20, 0);
        Runs.reportAt(fusion, 0, 9, 0, -5, 0);
        due(edges, fusion, 256L * (121 + 25), "1 0");
        fusion.clearBatch();
        Runs.reportAt(fusion, 0, 9, 0, 8, 0, 19, 0);
        due(edges, fusion, 256L * (225 + 64 + 1), "-1 0 1");
        TrackFusion byOne = Runs.atSixteenths(0, 1);
        Runs.processAt(byOne, 0, 100, 0);
        byOne.setGate(200);
        byOne.report(0, 0, 50, 0);
        edges.due("distances that differ by one", byOne.distance(0, 0) - byOne.distance(0, 1), 1L);
        due(edges, byOne, 640000L, "1");
    }

    @Sentence(of = "Terms: Assignments",
        says = "of several, the one in which the first report that goes elsewhere goes to the track with the lower number")
    static void termsTies(Edges edges) {
        TrackFusion fusion = withTracks(20, 10, 0, 0, 0, 5, 5);
        Runs.reportAt(fusion, 0, 5, 0);
        due(edges, fusion, 256L * 25, "0");
        Runs.reportAt(fusion, 0, 5, 0);
        due(edges, fusion, 256L * 50, "0 1");
        Runs.reportAt(fusion, 0, 5, 0);
        due(edges, fusion, 256L * 75, "0 1 2");
        Runs.reportAt(fusion, 0, 5, 0);
        due(edges, fusion, 256L * 75 + 102400L, "0 1 2 -1");
        TrackFusion later = withTracks(20, 0, 0, 10, 0);
        Runs.reportAt(later, 0, 5, 5, 5, -5);
        due(edges, later, 256L * 100, "0 1");
        later.clearBatch();
        Runs.reportAt(later, 0, 9, 0, 9, 0);
        due(edges, later, 256L * (81 + 1), "0 1");
        TrackFusion all = withTracks(400, 100, 0, -100, 0, 0, 100, 0, -100, 60, 80, -60, -80);
        Runs.reportAt(all, 0, 0, 0, 0, 0, 0, 0, 0, 0);
        due(edges, all, 4 * 2560000L, "0 1 2 3");
    }

    @Sentence(of = "Terms: Assignments", says = "where none comes after all tracks")
    static void termsTiesWithNone(Edges edges) {
        TrackFusion fusion = withTracks(10, 0, 0);
        Runs.reportAt(fusion, 0, 10, 0);
        due(edges, fusion, 25600L, "0");
        Runs.reportAt(fusion, 0, -6, 8);
        due(edges, fusion, 51200L, "0 -1");
        TrackFusion two = withTracks(10, 0, 0, 20, 0);
        Runs.reportAt(two, 0, 10, 0, 10, 0, 10, 0);
        due(edges, two, 76800L, "0 1 -1");
        TrackFusion sixth = withTracks(10, 500, 0, 600, 0, 700, 0, 800, 0, 900, 0, 0, 0);
        Runs.reportAt(sixth, 0, 0, -10);
        due(edges, sixth, 25600L, "5");
    }

    @Sentence(of = "Promise 15", says = "Returns the cost, 0 for an empty batch")
    static void promise15Empty(Edges edges) {
        edges.due("when new", new TrackFusion().bestCost(), 0L);
        TrackFusion fusion = withTracks(20, 0, 0, 100, 0);
        edges.due("with tracks", fusion.bestCost(), 0L);
        fusion.report(0, 0, 999, 0);
        edges.due("with a report", fusion.bestCost(), 102400L);
        fusion.clearBatch();
        edges.due("after clearBatch()", fusion.bestCost(), 0L);
        Runs.processAt(fusion, 0, 0, 0);
        edges.due("after process()", fusion.bestCost(), 0L);
        fusion.report(0, 0, 0, 0);
        edges.due("with a report at its track", fusion.bestCost(), 0L);
    }

    @Sentence(of = "Promise 15",
        says = "found report by report, where beginnings that cost too much already are given up")
    static void promise15Beginnings(Edges edges) {
        TrackFusion fusion = withTracks(100, 0, 0, 10, 0);
        Runs.reportAt(fusion, 0, 9, 0, 19, 0);
        edges.due("the cheapest beginning is not the best", fusion.bestCost(), 256L * (81 + 81));
        edges.due("the goals", Runs.goals(fusion), "0 1");
        TrackFusion dear = withTracks(10, 0, 0);
        Runs.reportAt(dear, 0, 9, 0, 0, 0);
        edges.due("the dearest beginning is the best", dear.bestCost(), 25600L);
        edges.due("the goals", Runs.goals(dear), "-1 0");
        TrackFusion equal = withTracks(10, 0, 0, 10, 0);
        Runs.reportAt(equal, 0, 10, 0, 20, 0);
        edges.due("a beginning that costs as much already", equal.bestCost(), 25600L);
        edges.due("the goals", Runs.goals(equal), "1 -1");
        Runs.reportAt(equal, 0, 5, 0);
        edges.due("with one more", equal.bestCost(), 256L * (0 + 100 + 25));
        edges.due("the goals", Runs.goals(equal), "1 -1 0");
    }

    @Sentence(of = "Promise 16", says = "Returns the same cost, found by trying all assignments")
    static void promise16Trying(Edges edges) {
        edges.due("when new", new TrackFusion().bestCostByTrying(), 0L);
        TrackFusion empty = withTracks(20, 0, 0);
        edges.due("with an empty batch", empty.bestCostByTrying(), 0L);
        TrackFusion full = withTracks(500, 0, 0, 300, 0, 0, 300, 300, 300, 150, 150, 150, 0);
        Runs.reportAt(full, 0, 150, 100, 150, 140, 150, 149, 150, 151);
        edges.due("liveTracks()", full.liveTracks(), 6);
        edges.due("with four reports and six tracks", full.bestCostByTrying(), 256L * (32500 + 42100 + 22201 + 1));
        edges.due("the same cost", full.bestCost(), full.bestCostByTrying());
        edges.due("the goals", Runs.goals(full), "0 1 5 4");
        for (Scene scene : Scene.values()) {
            TrackFusion fusion = scene.make();
            edges.due(scene + ": the same cost", fusion.bestCostByTrying(), fusion.bestCost());
        }
    }

    @Sentence(of = "Promise 17", says = "Returns the number of the track, or -1 if it goes to none")
    static void promise17Returns(Edges edges) {
        TrackFusion fusion = withTracks(20, 0, 0);
        Runs.reportAt(fusion, 0, 20, 0, 0, 21);
        edges.due("to the first track", fusion.goesTo(0), 0);
        edges.due("to none", fusion.goesTo(1), -1);
        TrackFusion sixty = Scene.SIXTY.make();
        edges.due("to a track with a high number", sixty.goesTo(0), 56);
        edges.due("to none", sixty.goesTo(1), -1);
        sixty.clearBatch();
        Runs.reportAt(sixty, 31, 900, 600);
        edges.due("a lost track takes nothing", sixty.goesTo(0), -1);
        TrackFusion none = new TrackFusion();
        none.report(0, 0, 0, 0);
        edges.due("without tracks", none.goesTo(0), -1);
    }

    @Sentence(of = "Promise 17", says = "Throws `IndexOutOfBoundsException` if there is no such report")
    static void promise17NoSuchReport(Edges edges) {
        for (int report : new int[] {-1, 4, 5, Integer.MIN_VALUE, Integer.MAX_VALUE}) {
            edges.refused("goesTo(" + report + ")", NO_INDEX, fusion -> fusion.goesTo(report));
        }
        edges.refused("goesTo(0) of an empty batch", NO_INDEX, fusion -> fusion.goesTo(0), Scene.NEW);
        edges.refused("goesTo(2) with two", NO_INDEX, fusion -> fusion.goesTo(2), Scene.BUSY, Scene.SIXTY);
        edges.due("goesTo(1) with two", Scene.BUSY.make().goesTo(1) >= -1, true);
        edges.due("goesTo(3) with four", Scene.FULL.make().goesTo(3), 2);
        TrackFusion processed = Scene.FULL.make();
        processed.process();
        edges.dueThrow("goesTo(0) after process()", NO_INDEX, () -> processed.goesTo(0));
        TrackFusion cleared = Scene.FULL.make();
        cleared.clearBatch();
        edges.dueThrow("goesTo(0) after clearBatch()", NO_INDEX, () -> cleared.goesTo(0));
    }
}
