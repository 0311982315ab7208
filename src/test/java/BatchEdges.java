import java.util.NoSuchElementException;

/** The edges of the batch and of distances: promises 9 to 14, and what the terms say of them. */
final class BatchEdges {
    private static final Class<IndexOutOfBoundsException> NO_INDEX = IndexOutOfBoundsException.class;
    private static final Class<IllegalArgumentException> WRONG = IllegalArgumentException.class;
    private static final Class<IllegalStateException> NO_STATE = IllegalStateException.class;
    private static final Class<NoSuchElementException> NO_TRACK = NoSuchElementException.class;
    private static final int LEAST = Integer.MIN_VALUE;
    private static final int GREATEST = Integer.MAX_VALUE;
    static final int[] NO_PLACES = {-1000, 1000, LEAST, GREATEST};

    private BatchEdges() {
    }

    @Sentence(of = "Terms: Batch", says = "a place of two coordinates, each from -999 to 999")
    static void termsPlaces(Edges edges) {
        TrackFusion fusion = new TrackFusion();
        Runs.processAt(fusion, 0, -999, -999, -999, 999, 999, -999, 999, 999);
        edges.due("the first corner", Runs.state(fusion, 0), "0: -15984 -15984 0 0");
        edges.due("the second corner", Runs.state(fusion, 1), "0: -15984 15984 0 0");
        edges.due("the third corner", Runs.state(fusion, 2), "0: 15984 -15984 0 0");
        edges.due("the fourth corner", Runs.state(fusion, 3), "0: 15984 15984 0 0");
        for (int place : new int[] {-1000, 1000}) {
            edges.dueThrow("report at (" + place + ", 0)", WRONG, () -> fusion.report(0, 0, place, 0));
            edges.dueThrow("report at (0, " + place + ")", WRONG, () -> fusion.report(0, 0, 0, place));
        }
        edges.due("batch()", fusion.batch(), 0);
    }

    @Sentence(of = "Terms: Batch", says = "At most 4 reports are in the batch")
    static void termsFour(Edges edges) {
        TrackFusion fusion = new TrackFusion();
        Runs.reportAt(fusion, 0, 1, 0, 100, 0, 200, 0);
        edges.due("batch() with three", fusion.batch(), 3);
        edges.due("the fourth", fusion.report(0, 0, 300, 0), 3);
        edges.due("batch() with four", fusion.batch(), 4);
        edges.dueThrow("the fifth", NO_STATE, () -> fusion.report(0, 0, 400, 0));
        edges.due("batch() after the fifth", fusion.batch(), 4);
        fusion.process();
        edges.due("tracks()", fusion.tracks(), 4);
        edges.due("the fourth track", Runs.state(fusion, 3), "0: 4800 0 0 0");
        edges.due("a first one again", fusion.report(0, 0, 400, 0), 0);
    }

    @Sentence(of = "Terms: Batch", says = "numbered from 0 in the order in which they came")
    static void termsOrder(Edges edges) {
        TrackFusion fusion = new TrackFusion();
        Runs.processAt(fusion, 0, 0, 0);
        edges.due("the first report", fusion.report(3, 9, 30, 0), 0);
        edges.due("the second report", fusion.report(0, 3, 20, 0), 1);
        edges.due("the third report", fusion.report(2, 7, -10, 0), 2);
        edges.due("the fourth report", fusion.report(1, 1, 0, 0), 3);
        edges.due("distance(0, 0)", fusion.distance(0, 0), 230400L);
        edges.due("distance(1, 0)", fusion.distance(1, 0), 102400L);
        edges.due("distance(2, 0)", fusion.distance(2, 0), 25600L);
        edges.due("distance(3, 0)", fusion.distance(3, 0), 0L);
    }

    @Sentence(of = "Terms: Batch", says = "Its corrected time is found when it comes and does not change later")
    static void termsCorrectedTime(Edges edges) {
        TrackFusion fusion = new TrackFusion();
        fusion.report(1, 150, -300, 0);
        fusion.addPair(1, 100, 200);
        fusion.report(1, 150, 0, 0);
        fusion.addPair(1, 200, 400);
        fusion.report(1, 150, 300, 0);
        fusion.forgetPairs(1);
        fusion.report(1, 151, 600, 0);
        fusion.addPair(1, 100, 900);
        fusion.process();
        edges.due("without pairs", fusion.timeOf(0), 150);
        edges.due("with one pair", fusion.timeOf(1), 250);
        edges.due("with two pairs", fusion.timeOf(2), 300);
        edges.due("without pairs again", fusion.timeOf(3), 151);
    }

    @Sentence(of = "Promise 9", says = "`time`: the time of the sensor, 0 to 9999")
    static void promise9Time(Edges edges) {
        TrackFusion fusion = new TrackFusion();
        edges.due("report at 0", fusion.report(0, 0, 1, 1), 0);
        edges.due("report at 9999", fusion.report(0, 9999, 500, 1), 1);
        edges.dueThrow("report at -1", WRONG, () -> fusion.report(0, -1, 1, 1));
        edges.dueThrow("report at 10000", WRONG, () -> fusion.report(0, 10000, 1, 1));
        fusion.process();
        edges.due("times", fusion.timeOf(0) + " " + fusion.timeOf(1), "0 9999");
    }

    @Sentence(of = "Promise 9", says = "`x`: the first coordinate of its place, -999 to 999")
    static void promise9First(Edges edges) {
        TrackFusion fusion = new TrackFusion();
        edges.due("report at (-999, 7)", fusion.report(0, 0, -999, 7), 0);
        edges.due("report at (999, 7)", fusion.report(0, 0, 999, 7), 1);
        edges.dueThrow("report at (-1000, 7)", WRONG, () -> fusion.report(0, 0, -1000, 7));
        edges.dueThrow("report at (1000, 7)", WRONG, () -> fusion.report(0, 0, 1000, 7));
        fusion.process();
        edges.due("the least", fusion.stateOf(0, 0), -15984);
        edges.due("the greatest", fusion.stateOf(1, 0), 15984);
    }

    @Sentence(of = "Promise 9", says = "`y`: the second coordinate of its place, -999 to 999")
    static void promise9Second(Edges edges) {
        TrackFusion fusion = new TrackFusion();
        edges.due("report at (7, -999)", fusion.report(0, 0, 7, -999), 0);
        edges.due("report at (7, 999)", fusion.report(0, 0, 7, 999), 1);
        edges.dueThrow("report at (7, -1000)", WRONG, () -> fusion.report(0, 0, 7, -1000));
        edges.dueThrow("report at (7, 1000)", WRONG, () -> fusion.report(0, 0, 7, 1000));
        fusion.process();
        edges.due("the least", fusion.stateOf(0, 1), -15984);
        edges.due("the greatest", fusion.stateOf(1, 1), 15984);
    }

    @Sentence(of = "Promise 9", says = "Returns the number of the report")
    static void promise9Returns(Edges edges) {
        TrackFusion fusion = new TrackFusion();
        for (int round = 0; round < 3; round++) {
            for (int report = 0; report < 4; report++) {
                edges.due("report " + report + " of round " + round, fusion.report(report, 5, 5, 5), report);
            }
            edges.due("reports of round " + round, round == 1 ? fusion.clearBatch() : fusion.batch(), 4);
            if (round == 0) {
                fusion.process();
            }
            if (round == 2) {
                edges.dueThrow("one more", NO_STATE, () -> fusion.report(0, 5, 5, 5));
            }
        }
    }

    @Sentence(of = "Promise 9", says = "Throws `IndexOutOfBoundsException` if there is no such sensor")
    static void promise9NoSuchSensor(Edges edges) {
        for (int sensor : new int[] {0, 1, 2, 3}) {
            edges.due("report of " + sensor, new TrackFusion().report(sensor, 5, 5, 5), 0);
        }
        for (int sensor : ClockEdges.NO_SENSORS) {
            edges.refused("report of " + sensor, NO_INDEX, fusion -> fusion.report(sensor, 5, 5, 5));
        }
    }

    @Sentence(of = "Promise 9", says = "Throws `IllegalArgumentException` if the time or a coordinate is out of range")
    static void promise9OutOfRange(Edges edges) {
        for (int time : ClockEdges.NO_SENSOR_TIMES) {
            edges.refused("report at " + time, WRONG, fusion -> fusion.report(0, time, 0, 0));
        }
        for (int place : NO_PLACES) {
            edges.refused("report at (" + place + ", 0)", WRONG, fusion -> fusion.report(0, 0, place, 0));
            edges.refused("report at (0, " + place + ")", WRONG, fusion -> fusion.report(0, 0, 0, place));
        }
    }

    @Sentence(of = "Promise 9", says = "Throws `IllegalStateException` if there are 4 reports in the batch")
    static void promise9FullBatch(Edges edges) {
        edges.refused("report into a full batch", NO_STATE, fusion -> fusion.report(0, 0, 0, 0), Scene.FULL);
        edges.due("report into an empty batch", Scene.NEW.make().report(0, 0, 0, 0), 0);
        edges.due("report into a batch with two", Scene.BUSY.make().report(0, 0, 0, 0), 2);
        TrackFusion fusion = Scene.FULL.make();
        fusion.process();
        edges.due("report after process()", fusion.report(0, 0, 0, 0), 0);
        TrackFusion cleared = Scene.FULL.make();
        cleared.clearBatch();
        edges.due("report after clearBatch()", cleared.report(0, 0, 0, 0), 0);
    }

    @Sentence(of = "Promise 10", says = "Empties the batch; its reports are not processed")
    static void promise10Empties(Edges edges) {
        TrackFusion fusion = Scene.FULL.make();
        String tracks = Runs.account(fusion, 0) + Runs.account(fusion, 1) + Runs.state(fusion, 0);
        fusion.clearBatch();
        edges.due("batch()", fusion.batch(), 0);
        edges.due("bestCost()", fusion.bestCost(), 0L);
        edges.dueThrow("goesTo(0)", NO_INDEX, () -> fusion.goesTo(0));
        edges.dueThrow("distance(0, 0)", NO_INDEX, () -> fusion.distance(0, 0));
        edges.dueThrow("process()", NO_STATE, fusion::process);
        edges.due("dropped()", fusion.dropped(), 2);
        edges.due("takenShare()", fusion.takenShare(), 0f);
        edges.due("tracks", Runs.account(fusion, 0) + Runs.account(fusion, 1) + Runs.state(fusion, 0), tracks);
        Runs.processAt(fusion, 9, 900, 900);
        edges.due("only the new one is processed", fusion.dropped(), 3);
        edges.due("countOf('h')", fusion.countOf('h'), 0);
    }

    @Sentence(of = "Promise 10", says = "Returns the number of reports that were in it")
    static void promise10Returns(Edges edges) {
        TrackFusion fusion = new TrackFusion();
        edges.due("when new", fusion.clearBatch(), 0);
        for (int reports = 1; reports <= 4; reports++) {
            for (int i = 0; i < reports; i++) {
                fusion.report(0, 0, 0, 0);
            }
            edges.due("with " + reports, fusion.clearBatch(), reports);
            edges.due("again", fusion.clearBatch(), 0);
        }
        Runs.processAt(fusion, 0, 0, 0);
        edges.due("after process()", fusion.clearBatch(), 0);
    }

    @Sentence(of = "Promise 11", says = "Returns the number of reports that went to a track")
    static void promise11Returns(Edges edges) {
        int[] places = {0, 0, 100, 0, 200, 0, 300, 0};
        int[] others = {0, 500, 100, 500, 200, 500, 300, 500};
        for (int hits = 0; hits <= 4; hits++) {
            TrackFusion fusion = new TrackFusion();
            edges.due("the first ones", Runs.processAt(fusion, 0, places), 0);
            for (int i = 0; i < 4; i++) {
                Runs.reportAt(fusion, 1, i < hits ? places[2 * i] : others[2 * i], i < hits ? 0 : 500);
            }
            edges.due("with " + hits, fusion.process(), hits);
        }
        TrackFusion fusion = Scene.FULL.make();
        edges.due("with one that is dropped", fusion.process(), 3);
    }

    @Sentence(of = "Promise 11", says = "Throws `IllegalStateException` if the batch is empty")
    static void promise11Empty(Edges edges) {
        edges.refused("process() when new", NO_STATE, TrackFusion::process, Scene.NEW);
        for (Scene scene : new Scene[] {Scene.BUSY, Scene.FULL, Scene.SIXTY}) {
            TrackFusion processed = scene.make();
            processed.process();
            edges.dueThrow(scene + ": process() again", NO_STATE, processed::process);
            edges.due(scene + ": all answers after process() again", scene.after(TrackFusion::process,
                TrackFusion::process), scene.untouchedAndProcessed());
            TrackFusion cleared = scene.make();
            cleared.clearBatch();
            edges.dueThrow(scene + ": process() after clearBatch()", NO_STATE, cleared::process);
            edges.due(scene + ": all answers after clearBatch() and process()", scene.after(TrackFusion::clearBatch,
                TrackFusion::process), scene.after(TrackFusion::clearBatch));
        }
        TrackFusion one = new TrackFusion();
        one.report(0, 0, 0, 0);
        edges.due("process() with one report", one.process(), 0);
    }

    @Sentence(of = "Promise 12", says = "Returns the number of reports in the batch")
    static void promise12Batch(Edges edges) {
        TrackFusion fusion = new TrackFusion();
        edges.due("when new", fusion.batch(), 0);
        for (int reports = 1; reports <= 4; reports++) {
            fusion.report(0, 0, 0, 0);
            edges.due("with " + reports, fusion.batch(), reports);
        }
        edges.dueThrow("one more", NO_STATE, () -> fusion.report(0, 0, 0, 0));
        edges.due("when full", fusion.batch(), 4);
        fusion.process();
        edges.due("after process()", fusion.batch(), 0);
        fusion.report(0, 0, 0, 0);
        fusion.clearBatch();
        edges.due("after clearBatch()", fusion.batch(), 0);
    }

    /** The fastest track there is, moving along both coordinates, at a time that is almost the least there is. */
    private static TrackFusion fastest() {
        TrackFusion fusion = Runs.with(500, 16, 16, 9, 0);
        Runs.addPairs(fusion, 1, 9998, 0, 9999, 2);
        Runs.addPairs(fusion, 2, 0, 9997, 1, 9999);
        fusion.report(1, 0, -999, -999);
        fusion.process();
        fusion.report(1, 1, -799, -799);
        fusion.process();
        return fusion;
    }

    @Sentence(of = "Terms: Distances", says = "The distance of a report and a track is the sum of the squares, for both "
        + "coordinates, of the difference of 16 times that of the place of the report and that of the predicted position "
        + "of the track at the time of the report")
    static void termsDistance(Edges edges) {
        TrackFusion still = new TrackFusion();
        Runs.processAt(still, 10, 3, -4);
        Runs.reportAt(still, 10, 3, -4, 0, 0, 4, -4, 3, -6);
        edges.due("at its place", still.distance(0, 0), 0L);
        edges.due("along both coordinates", still.distance(1, 0), 256L * 25);
        edges.due("along the first", still.distance(2, 0), 256L);
        edges.due("along the second", still.distance(3, 0), 1024L);
        TrackFusion moving = Runs.moving(0);
        moving.report(0, 11, 2, 1);
        moving.report(0, 12, 2, 1);
        moving.report(0, 13, 2, 1);
        edges.due("where it was", moving.distance(0, 0), 8L * 8 + 4 * 4);
        edges.due("where it is", moving.distance(1, 0), 0L);
        edges.due("where it will be", moving.distance(2, 0), 8L * 8 + 4 * 4);
        TrackFusion fast = fastest();
        edges.due("the fastest one", Runs.state(fast, 0), "-19994: -12784 -12784 1600 1600");
        fast.report(2, 9999, -999, -999);
        long apart = -15984L - (-12784L + 1600L * (29995 + 19994));
        edges.due("far beyond an int", fast.distance(0, 0), 2 * apart * apart);
    }

    @Sentence(of = "Terms: Distances",
        says = "A live track can take a report if the time of the report is not less than that of the track")
    static void termsTimeNotLess(Edges edges) {
        TrackFusion fusion = new TrackFusion();
        Runs.processAt(fusion, 100, 0, 0);
        fusion.report(0, 99, 0, 0);
        fusion.report(0, 100, 0, 0);
        fusion.report(0, 101, 0, 0);
        fusion.report(0, 0, 0, 0);
        edges.due("1 before", fusion.canTake(0, 0), false);
        edges.due("at its time", fusion.canTake(1, 0), true);
        edges.due("1 behind", fusion.canTake(2, 0), true);
        edges.due("long before", fusion.canTake(3, 0), false);
        TrackFusion negative = fastest();
        negative.report(1, 0, -999, -999);
        negative.report(1, 1, -799, -799);
        edges.due("before a negative time", negative.distance(0, 0), 0L);
        edges.due("before a negative time", negative.canTake(0, 0), false);
        edges.due("at a negative time", negative.canTake(1, 0), true);
    }

    @Sentence(of = "Terms: Distances", says = "the distance is not greater than the square of 16 times the gate")
    static void termsWithinGate(Edges edges) {
        TrackFusion fusion = Runs.atSixteenths(0, 1);
        fusion.setGate(1);
        fusion.report(0, 0, 1, 0);
        fusion.report(0, 0, 0, 1);
        fusion.report(0, 0, 0, -1);
        edges.due("distance(0, 0)", fusion.distance(0, 0), 257L);
        edges.due("one more than the square", fusion.canTake(0, 0), false);
        edges.due("distance(1, 0)", fusion.distance(1, 0), 225L);
        edges.due("less than the square", fusion.canTake(1, 0), true);
        edges.due("distance(2, 0)", fusion.distance(2, 0), 289L);
        edges.due("more than the square", fusion.canTake(2, 0), false);
        TrackFusion whole = Runs.atSixteenths(0, 0);
        whole.setGate(1);
        whole.report(0, 0, 1, 0);
        edges.due("distance(0, 0)", whole.distance(0, 0), 256L);
        edges.due("the square", whole.canTake(0, 0), true);
        TrackFusion wide = Runs.atSixteenths(0, 1);
        wide.setGate(500);
        wide.report(0, 0, 500, 0);
        wide.report(0, 0, -499, 0);
        edges.due("distance(0, 0)", wide.distance(0, 0), 64000001L);
        edges.due("one more than the greatest square", wide.canTake(0, 0), false);
        edges.due("less than the greatest square", wide.canTake(1, 0), true);
        for (int x = 0; x <= 17; x++) {
            for (int y = -17; y <= 0; y++) {
                withinGateOfOne(edges, x, y);
            }
        }
    }

    private static void withinGateOfOne(Edges edges, int x, int y) {
        TrackFusion fusion = Runs.atSixteenths(x, y);
        fusion.report(0, 0, 0, 0);
        long apart = x * x + y * y;
        String from = " from " + x + " and " + y;
        edges.due("distance" + from, fusion.distance(0, 0), apart);
        edges.due("canTake" + from, fusion.canTake(0, 0), apart <= 256);
        edges.due("goesTo" + from, fusion.goesTo(0), apart <= 256 ? 0 : -1);
        edges.due("bestCost" + from, fusion.bestCost(), Math.min(apart, 256L));
        edges.due("bestCostByTrying" + from, fusion.bestCostByTrying(), Math.min(apart, 256L));
    }

    @Sentence(of = "Promise 13",
        says = "Returns the distance of a report of the batch and a live track, whether the track can take it or not")
    static void promise13Distance(Edges edges) {
        TrackFusion fusion = new TrackFusion();
        Runs.processAt(fusion, 100, 0, 0);
        Runs.processAt(fusion, 100, 300, 0);
        fusion.report(0, 100, 20, 0);
        fusion.report(0, 100, 20, 1);
        fusion.report(0, 99, 0, 0);
        fusion.report(0, 99, 999, -999);
        edges.due("one that it can take", fusion.distance(0, 0), 102400L);
        edges.due("one that is too far", fusion.distance(1, 0), 102656L);
        edges.due("one that is too early", fusion.distance(2, 0), 0L);
        edges.due("one that is both", fusion.distance(3, 0), 2L * 15984 * 15984);
        edges.due("of another track", fusion.distance(2, 1), 4800L * 4800);
    }

    /** Each report of the batch and the numbers beside them. */
    private static void refusedReports(Edges edges, String name, TwoNumbers call) {
        for (int report : new int[] {-1, 4, 5, LEAST, GREATEST}) {
            edges.refused(name + "(" + report + ", 0)", NO_INDEX, fusion -> call.on(fusion, report, 0));
        }
        edges.refused(name + "(0, 0) of an empty batch", NO_INDEX, fusion -> call.on(fusion, 0, 0), Scene.NEW);
        edges.refused(name + "(2, 0)", NO_INDEX, fusion -> call.on(fusion, 2, 0), Scene.BUSY, Scene.NEW);
        edges.due(name + "(1, 0) with two", answers(Scene.BUSY, call, 1, 0), true);
        edges.due(name + "(3, 0) with four", answers(Scene.FULL, call, 3, 0), true);
        TrackFusion processed = Scene.FULL.make();
        processed.process();
        edges.dueThrow(name + "(0, 0) after process()", NO_INDEX, () -> call.on(processed, 0, 0));
        TrackFusion cleared = Scene.FULL.make();
        cleared.clearBatch();
        edges.dueThrow(name + "(0, 0) after clearBatch()", NO_INDEX, () -> call.on(cleared, 0, 0));
    }

    private interface TwoNumbers {
        Object on(TrackFusion fusion, int report, int track);
    }

    private static boolean answers(Scene scene, TwoNumbers call, int report, int track) {
        return !Checks.answerOf(() -> call.on(scene.make(), report, track)).toString().startsWith("throws");
    }

    /** Tracks 0 to 4 of the busy scene: confirmed, live, merged, lost, live. */
    private static void refusedTracks(Edges edges, String name, TwoNumbers call) {
        for (int track : new int[] {-1, 60, 61, LEAST, GREATEST}) {
            edges.refused(name + "(0, " + track + ")", NO_TRACK, fusion -> call.on(fusion, 0, track), Scene.BUSY,
                Scene.FULL, Scene.SIXTY);
        }
        edges.refused(name + " of a merged one", NO_TRACK, fusion -> call.on(fusion, 1, 2), Scene.BUSY);
        edges.refused(name + " of a lost one", NO_TRACK, fusion -> call.on(fusion, 1, 3), Scene.BUSY);
        edges.refused(name + " of the next one", NO_TRACK, fusion -> call.on(fusion, 1, 5), Scene.BUSY);
        edges.refused(name + " of the seventh", NO_TRACK, fusion -> call.on(fusion, 1, 6), Scene.FULL);
        edges.refused(name + " of the last one, lost", NO_TRACK, fusion -> call.on(fusion, 1, 59), Scene.SIXTY);
        edges.due(name + " of a confirmed one", answers(Scene.BUSY, call, 1, 0), true);
        edges.due(name + " of a tentative one", answers(Scene.BUSY, call, 1, 4), true);
        edges.due(name + " of the sixth", answers(Scene.FULL, call, 1, 5), true);
        edges.due(name + " of the only live one", answers(Scene.SIXTY, call, 1, 56), true);
        TrackFusion none = new TrackFusion();
        none.report(0, 0, 0, 0);
        edges.dueThrow(name + "(0, 0) without tracks", NO_TRACK, () -> call.on(none, 0, 0));
    }

    @Sentence(of = "Promise 13", says = "Throws `IndexOutOfBoundsException` if there is no such report")
    static void promise13NoSuchReport(Edges edges) {
        refusedReports(edges, "distance", TrackFusion::distance);
    }

    @Sentence(of = "Promise 13", says = "Throws `NoSuchElementException` if there is no such live track")
    static void promise13NoSuchLiveTrack(Edges edges) {
        refusedTracks(edges, "distance", TrackFusion::distance);
    }

    @Sentence(of = "Promise 14", says = "Returns whether a live track can take a report of the batch")
    static void promise14CanTake(Edges edges) {
        TrackFusion fusion = new TrackFusion();
        Runs.processAt(fusion, 100, 0, 0, 300, 0);
        fusion.report(0, 100, 20, 0);
        fusion.report(0, 100, 20, 1);
        fusion.report(0, 99, 20, 0);
        fusion.report(0, 100, 19, 0);
        edges.due("at the edge of its gate and at its time", fusion.canTake(0, 0), true);
        edges.due("beyond its gate", fusion.canTake(1, 0), false);
        edges.due("before its time", fusion.canTake(2, 0), false);
        edges.due("another one takes it rather", fusion.goesTo(0) + " " + fusion.goesTo(3), "-1 0");
        edges.due("but it can", fusion.canTake(0, 0) && fusion.canTake(3, 0), true);
        edges.due("another track", fusion.canTake(0, 1), false);
    }

    @Sentence(of = "Promise 14", says = "Throws `IndexOutOfBoundsException` if there is no such report")
    static void promise14NoSuchReport(Edges edges) {
        refusedReports(edges, "canTake", TrackFusion::canTake);
    }

    @Sentence(of = "Promise 14", says = "Throws `NoSuchElementException` if there is no such live track")
    static void promise14NoSuchLiveTrack(Edges edges) {
        refusedTracks(edges, "canTake", TrackFusion::canTake);
    }
}
