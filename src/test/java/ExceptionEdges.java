import java.util.NoSuchElementException;

/** The edges of the exceptions, promise by promise: nothing changes, and the one documented first is thrown. */
final class ExceptionEdges {
    private static final Class<IndexOutOfBoundsException> NO_INDEX = IndexOutOfBoundsException.class;
    private static final Class<IllegalArgumentException> WRONG = IllegalArgumentException.class;
    private static final Class<IllegalStateException> NO_STATE = IllegalStateException.class;
    private static final Class<NoSuchElementException> NONE = NoSuchElementException.class;
    private static final Class<ArithmeticException> NO_MEAN = ArithmeticException.class;
    private static final String CHANGES_NOTHING = "A method that throws an exception changes nothing";
    private static final String FIRST_IS_THROWN =
        "If several exceptions apply, the one that is documented first is thrown";
    private static final int LEAST = Integer.MIN_VALUE;
    private static final int GREATEST = Integer.MAX_VALUE;

    private ExceptionEdges() {
    }

    @Sentence(of = "Terms: Exceptions", says = CHANGES_NOTHING)
    static void changesNothingPromise02(Edges edges) {
        edges.refused("addPair(4, 300, 350)", NO_INDEX, fusion -> fusion.addPair(4, 300, 350));
        edges.refused("addPair(0, 10000, 350)", WRONG, fusion -> fusion.addPair(0, 10000, 350));
        edges.refused("addPair(1, 100, 91)", WRONG, fusion -> fusion.addPair(1, 100, 91), Scene.BUSY);
        edges.refused("addPair(1, 102, 90)", WRONG, fusion -> fusion.addPair(1, 102, 90), Scene.BUSY);
        edges.refused("addPair(1, 102, 95)", WRONG, fusion -> fusion.addPair(1, 102, 95), Scene.BUSY);
        edges.refused("addPair(2, 150, 180)", WRONG, fusion -> fusion.addPair(2, 150, 180), Scene.BUSY);
        edges.refused("addPair(2, 200, 235)", WRONG, fusion -> fusion.addPair(2, 200, 235), Scene.BUSY);
        edges.refused("addPair(3, 22, 35)", WRONG, fusion -> fusion.addPair(3, 22, 35), Scene.BUSY);
    }

    @Sentence(of = "Terms: Exceptions", says = CHANGES_NOTHING)
    static void changesNothingPromise03(Edges edges) {
        edges.refused("forgetPairs(4)", NO_INDEX, fusion -> fusion.forgetPairs(4));
        edges.refused("forgetPairs(-1)", NO_INDEX, fusion -> fusion.forgetPairs(-1));
    }

    @Sentence(of = "Terms: Exceptions", says = CHANGES_NOTHING)
    static void changesNothingPromise04(Edges edges) {
        edges.refused("correctedTime(4, 0)", NO_INDEX, fusion -> fusion.correctedTime(4, 0));
        edges.refused("correctedTime(2, -1)", WRONG, fusion -> fusion.correctedTime(2, -1));
    }

    @Sentence(of = "Terms: Exceptions", says = CHANGES_NOTHING)
    static void changesNothingPromise05(Edges edges) {
        edges.refused("setGate(0)", WRONG, fusion -> fusion.setGate(0));
        edges.refused("setGate(501)", WRONG, fusion -> fusion.setGate(501));
    }

    @Sentence(of = "Terms: Exceptions", says = CHANGES_NOTHING)
    static void changesNothingPromise06(Edges edges) {
        edges.refused("setFilter(16, 17)", WRONG, fusion -> fusion.setFilter(16, 17));
        edges.refused("setFilter(1, -1)", WRONG, fusion -> fusion.setFilter(1, -1));
        edges.refused("setFilter(17, 16)", WRONG, fusion -> fusion.setFilter(17, 16));
        edges.refused("setFilter(0, 0)", WRONG, fusion -> fusion.setFilter(0, 0));
    }

    @Sentence(of = "Terms: Exceptions", says = CHANGES_NOTHING)
    static void changesNothingPromise07(Edges edges) {
        edges.refused("setLimit(0)", WRONG, fusion -> fusion.setLimit(0));
        edges.refused("setLimit(10)", WRONG, fusion -> fusion.setLimit(10));
    }

    @Sentence(of = "Terms: Exceptions", says = CHANGES_NOTHING)
    static void changesNothingPromise08(Edges edges) {
        edges.refused("setNearness(-1)", WRONG, fusion -> fusion.setNearness(-1));
        edges.refused("setNearness(101)", WRONG, fusion -> fusion.setNearness(101));
    }

    @Sentence(of = "Terms: Exceptions", says = CHANGES_NOTHING)
    static void changesNothingPromise09(Edges edges) {
        edges.refused("report(4, 7, 7, 7)", NO_INDEX, fusion -> fusion.report(4, 7, 7, 7));
        edges.refused("report(0, 10000, 7, 7)", WRONG, fusion -> fusion.report(0, 10000, 7, 7));
        edges.refused("report(0, 7, 1000, 7)", WRONG, fusion -> fusion.report(0, 7, 1000, 7));
        edges.refused("report(0, 7, 7, -1000)", WRONG, fusion -> fusion.report(0, 7, 7, -1000));
        edges.refused("report(0, 7, 7, 7)", NO_STATE, fusion -> fusion.report(0, 7, 7, 7), Scene.FULL);
    }

    @Sentence(of = "Terms: Exceptions", says = CHANGES_NOTHING)
    static void changesNothingPromise11(Edges edges) {
        edges.refused("process()", NO_STATE, TrackFusion::process, Scene.NEW);
        for (Scene scene : new Scene[] {Scene.BUSY, Scene.FULL, Scene.SIXTY}) {
            edges.due(scene + ": all answers after process(), which is refused", scene.after(TrackFusion::clearBatch,
                TrackFusion::process), scene.after(TrackFusion::clearBatch));
        }
    }

    @Sentence(of = "Terms: Exceptions", says = CHANGES_NOTHING)
    static void changesNothingPromises13To17(Edges edges) {
        edges.refused("distance(4, 0)", NO_INDEX, fusion -> fusion.distance(4, 0));
        edges.refused("distance(0, 60)", NONE, fusion -> fusion.distance(0, 60), Scene.BUSY, Scene.FULL, Scene.SIXTY);
        edges.refused("distance(0, 3)", NONE, fusion -> fusion.distance(0, 3), Scene.BUSY, Scene.SIXTY);
        edges.refused("canTake(4, 0)", NO_INDEX, fusion -> fusion.canTake(4, 0));
        edges.refused("canTake(0, 60)", NONE, fusion -> fusion.canTake(0, 60), Scene.BUSY, Scene.FULL, Scene.SIXTY);
        edges.refused("canTake(0, 3)", NONE, fusion -> fusion.canTake(0, 3), Scene.BUSY, Scene.SIXTY);
        edges.refused("goesTo(4)", NO_INDEX, fusion -> fusion.goesTo(4));
    }

    @Sentence(of = "Terms: Exceptions", says = CHANGES_NOTHING)
    static void changesNothingPromises20To29(Edges edges) {
        edges.refused("status(60)", NO_INDEX, fusion -> fusion.status(60));
        edges.refused("timeOf(60)", NO_INDEX, fusion -> fusion.timeOf(60));
        edges.refused("stateOf(60, 0)", NO_INDEX, fusion -> fusion.stateOf(60, 0));
        edges.refused("predicted(60, 0, true)", NO_INDEX, fusion -> fusion.predicted(60, 0, true));
        edges.refused("hits(60)", NO_INDEX, fusion -> fusion.hits(60));
        edges.refused("misses(60)", NO_INDEX, fusion -> fusion.misses(60));
        edges.refused("mergedInto(60)", NO_INDEX, fusion -> fusion.mergedInto(60));
        edges.refused("historyLength(60)", NO_INDEX, fusion -> fusion.historyLength(60));
        edges.refused("historyAt(60, 0)", NO_INDEX, fusion -> fusion.historyAt(60, 0));
        edges.refused("quality(60)", NO_INDEX, fusion -> fusion.quality(60));
        Scene[] withTracks = {Scene.BUSY, Scene.FULL, Scene.SIXTY};
        edges.refused("stateOf(0, 4)", WRONG, fusion -> fusion.stateOf(0, 4), withTracks);
        edges.refused("predicted(0, 40000, true)", WRONG, fusion -> fusion.predicted(0, 40000, true), withTracks);
        edges.refused("mergedInto(0)", NONE, fusion -> fusion.mergedInto(0), withTracks);
        edges.refused("historyAt(0, 400)", NONE, fusion -> fusion.historyAt(0, 400), withTracks);
    }

    @Sentence(of = "Terms: Exceptions", says = CHANGES_NOTHING)
    static void changesNothingPromises30To35(Edges edges) {
        edges.refused("countOf('c')", WRONG, fusion -> fusion.countOf('c'));
        edges.refused("nearest(40000, 0, 0)", WRONG, fusion -> fusion.nearest(40000, 0, 0));
        edges.refused("nearest(0, 1000, 0)", WRONG, fusion -> fusion.nearest(0, 1000, 0));
        edges.refused("nearest(0, 0, 0)", NONE, fusion -> fusion.nearest(0, 0, 0), Scene.NEW);
        edges.refused("takenShare()", NO_MEAN, TrackFusion::takenShare, Scene.NEW);
        edges.refused("meanHits()", NO_MEAN, TrackFusion::meanHits, Scene.NEW);
    }

    @Sentence(of = "Terms: Exceptions", says = FIRST_IS_THROWN)
    static void firstIsThrownPromise02(Edges edges) {
        for (int sensor : ClockEdges.NO_SENSORS) {
            edges.refused("addPair(" + sensor + ", -1, 0)", NO_INDEX, fusion -> fusion.addPair(sensor, -1, 0));
            edges.refused("addPair(" + sensor + ", 0, 10000)", NO_INDEX, fusion -> fusion.addPair(sensor, 0, 10000));
            edges.refused("addPair(" + sensor + ", ..)", NO_INDEX, fusion -> fusion.addPair(sensor, LEAST, GREATEST));
        }
    }

    @Sentence(of = "Terms: Exceptions", says = FIRST_IS_THROWN)
    static void firstIsThrownPromise04(Edges edges) {
        for (int sensor : ClockEdges.NO_SENSORS) {
            for (int time : ClockEdges.NO_SENSOR_TIMES) {
                edges.refused("correctedTime(" + sensor + ", " + time + ")", NO_INDEX,
                    fusion -> fusion.correctedTime(sensor, time));
            }
        }
    }

    @Sentence(of = "Terms: Exceptions", says = FIRST_IS_THROWN)
    static void firstIsThrownPromise09(Edges edges) {
        for (int sensor : ClockEdges.NO_SENSORS) {
            edges.refused("report(" + sensor + ", -1, 0, 0)", NO_INDEX, fusion -> fusion.report(sensor, -1, 0, 0));
            edges.refused("report(" + sensor + ", 0, 1000, 0)", NO_INDEX, fusion -> fusion.report(sensor, 0, 1000, 0));
            edges.refused("report(" + sensor + ", 0, 0, -1000)", NO_INDEX,
                fusion -> fusion.report(sensor, 0, 0, -1000));
            edges.refused("report(" + sensor + ", 0, 0, 0) with four", NO_INDEX,
                fusion -> fusion.report(sensor, 0, 0, 0), Scene.FULL);
            edges.refused("report(" + sensor + ", -1, 1000, -1000) with four", NO_INDEX,
                fusion -> fusion.report(sensor, -1, 1000, -1000), Scene.FULL);
        }
        edges.refused("report(0, 10000, 0, 0) with four", WRONG, fusion -> fusion.report(0, 10000, 0, 0), Scene.FULL);
        edges.refused("report(3, -1, 0, 0) with four", WRONG, fusion -> fusion.report(3, -1, 0, 0), Scene.FULL);
        edges.refused("report(0, 0, 1000, 0) with four", WRONG, fusion -> fusion.report(0, 0, 1000, 0), Scene.FULL);
        edges.refused("report(0, 0, 0, -1000) with four", WRONG, fusion -> fusion.report(0, 0, 0, -1000), Scene.FULL);
        edges.refused("report(3, 9999, 999, -999) with four", NO_STATE, fusion -> fusion.report(3, 9999, 999, -999),
            Scene.FULL);
    }

    @Sentence(of = "Terms: Exceptions", says = FIRST_IS_THROWN)
    static void firstIsThrownPromise13(Edges edges) {
        for (int wrong : new int[] {-1, 60, LEAST, GREATEST}) {
            edges.refused("distance(" + wrong + ", " + wrong + ")", NO_INDEX, fusion -> fusion.distance(wrong, wrong));
        }
        edges.refused("distance(2, 3), no report and a lost one", NO_INDEX, fusion -> fusion.distance(2, 3), Scene.BUSY);
        edges.refused("distance(2, 2), no report and a merged one", NO_INDEX, fusion -> fusion.distance(2, 2),
            Scene.BUSY);
        edges.refused("distance(0, 0)", NO_INDEX, fusion -> fusion.distance(0, 0), Scene.NEW);
    }

    @Sentence(of = "Terms: Exceptions", says = FIRST_IS_THROWN)
    static void firstIsThrownPromise14(Edges edges) {
        for (int wrong : new int[] {-1, 60, LEAST, GREATEST}) {
            edges.refused("canTake(" + wrong + ", " + wrong + ")", NO_INDEX, fusion -> fusion.canTake(wrong, wrong));
        }
        edges.refused("canTake(2, 3), no report and a lost one", NO_INDEX, fusion -> fusion.canTake(2, 3), Scene.BUSY);
        edges.refused("canTake(2, 2), no report and a merged one", NO_INDEX, fusion -> fusion.canTake(2, 2),
            Scene.BUSY);
        edges.refused("canTake(0, 0)", NO_INDEX, fusion -> fusion.canTake(0, 0), Scene.NEW);
    }

    @Sentence(of = "Terms: Exceptions", says = FIRST_IS_THROWN)
    static void firstIsThrownPromise22(Edges edges) {
        for (int track : new int[] {-1, 60, LEAST, GREATEST}) {
            edges.refused("stateOf(" + track + ", -1)", NO_INDEX, fusion -> fusion.stateOf(track, -1));
            edges.refused("stateOf(" + track + ", 4)", NO_INDEX, fusion -> fusion.stateOf(track, 4));
        }
        edges.refused("stateOf(5, 4)", NO_INDEX, fusion -> fusion.stateOf(5, 4), Scene.BUSY);
        edges.refused("stateOf(0, 4)", NO_INDEX, fusion -> fusion.stateOf(0, 4), Scene.NEW);
    }

    @Sentence(of = "Terms: Exceptions", says = FIRST_IS_THROWN)
    static void firstIsThrownPromise23(Edges edges) {
        for (int track : new int[] {-1, 60, LEAST, GREATEST}) {
            edges.refused("predicted(" + track + ", 40000, true)", NO_INDEX,
                fusion -> fusion.predicted(track, 40000, true));
            edges.refused("predicted(" + track + ", -10000, false)", NO_INDEX,
                fusion -> fusion.predicted(track, -10000, false));
        }
        edges.refused("predicted(5, 40000, true)", NO_INDEX, fusion -> fusion.predicted(5, 40000, true), Scene.BUSY);
        edges.refused("predicted(0, 40000, true)", NO_INDEX, fusion -> fusion.predicted(0, 40000, true), Scene.NEW);
    }

    @Sentence(of = "Terms: Exceptions", says = FIRST_IS_THROWN)
    static void firstIsThrownPromise26(Edges edges) {
        edges.refused("mergedInto(5), which is not merged either", NO_INDEX, fusion -> fusion.mergedInto(5), Scene.BUSY);
        edges.refused("mergedInto(0), which is not merged either", NO_INDEX, fusion -> fusion.mergedInto(0), Scene.NEW);
        edges.refused("mergedInto(60), which is not merged either", NO_INDEX, fusion -> fusion.mergedInto(60));
    }

    @Sentence(of = "Terms: Exceptions", says = FIRST_IS_THROWN)
    static void firstIsThrownPromise28(Edges edges) {
        for (int track : new int[] {-1, 60, LEAST, GREATEST}) {
            edges.refused("historyAt(" + track + ", -1)", NO_INDEX, fusion -> fusion.historyAt(track, -1));
            edges.refused("historyAt(" + track + ", 400)", NO_INDEX, fusion -> fusion.historyAt(track, 400));
        }
        edges.refused("historyAt(5, 1)", NO_INDEX, fusion -> fusion.historyAt(5, 1), Scene.BUSY);
        edges.refused("historyAt(0, -1)", NO_INDEX, fusion -> fusion.historyAt(0, -1), Scene.NEW);
    }

    @Sentence(of = "Terms: Exceptions", says = FIRST_IS_THROWN)
    static void firstIsThrownPromise31(Edges edges) {
        edges.refused("nearest(-10000, 0, 0)", WRONG, fusion -> fusion.nearest(-10000, 0, 0), Scene.NEW);
        edges.refused("nearest(40000, 0, 0)", WRONG, fusion -> fusion.nearest(40000, 0, 0), Scene.NEW);
        edges.refused("nearest(0, -1000, 0)", WRONG, fusion -> fusion.nearest(0, -1000, 0), Scene.NEW);
        edges.refused("nearest(0, 0, 1000)", WRONG, fusion -> fusion.nearest(0, 0, 1000), Scene.NEW);
        edges.refused("nearest(39999, 999, -999)", NONE, fusion -> fusion.nearest(39999, 999, -999), Scene.NEW);
        TrackFusion lost = Runs.sixtyBegun();
        Runs.processAt(lost, 99, 0, 0);
        edges.dueThrow("nearest(40000, 0, 0) with lost tracks alone", WRONG, () -> lost.nearest(40000, 0, 0));
        edges.dueThrow("nearest(39999, 0, 0) with lost tracks alone", NONE, () -> lost.nearest(39999, 0, 0));
    }
}
