/** The edges of the settings: promises 5 to 8, and what the terms say of their ranges and first values. */
final class SettingEdges {
    private static final Class<IllegalArgumentException> WRONG = IllegalArgumentException.class;
    private static final int LEAST = Integer.MIN_VALUE;
    private static final int GREATEST = Integer.MAX_VALUE;

    private SettingEdges() {
    }

    /** Tells whether a track at (0, 0) can take a report at the place. */
    private static boolean takes(TrackFusion fusion, int x, int y) {
        Runs.processAt(fusion, 0, 0, 0);
        Runs.reportAt(fusion, 0, x, y);
        return fusion.canTake(0, 0);
    }

    private static TrackFusion withGate(int gate) {
        TrackFusion fusion = new TrackFusion();
        fusion.setGate(gate);
        return fusion;
    }

    @Sentence(of = "Terms: Distances", says = "The gate is a number from 1 to 500, initially 20")
    static void termsGate(Edges edges) {
        edges.due("20 away at first", takes(new TrackFusion(), 20, 0), true);
        edges.due("a little more than 20 away at first", takes(new TrackFusion(), 20, 1), false);
        edges.due("1 away with 1", takes(withGate(1), 0, -1), true);
        edges.due("a little more than 1 away with 1", takes(withGate(1), 1, 1), false);
        edges.due("500 away with 500", takes(withGate(500), -300, 400), true);
        edges.due("a little more than 500 away with 500", takes(withGate(500), -300, 401), false);
        edges.due("setGate(30) at first", new TrackFusion().setGate(30), 20);
        edges.dueThrow("setGate(0)", WRONG, () -> new TrackFusion().setGate(0));
        edges.dueThrow("setGate(501)", WRONG, () -> new TrackFusion().setGate(501));
    }

    @Sentence(of = "Promise 5", says = "`gate`: the gate, 1 to 500")
    static void promise5Range(Edges edges) {
        TrackFusion fusion = new TrackFusion();
        fusion.setGate(1);
        edges.due("after 1", fusion.setGate(2), 1);
        edges.due("after 2", fusion.setGate(499), 2);
        edges.due("after 499", fusion.setGate(500), 499);
        edges.due("after 500", fusion.setGate(1), 500);
    }

    @Sentence(of = "Promise 5", says = "Sets the gate")
    static void promise5Sets(Edges edges) {
        TrackFusion fusion = new TrackFusion();
        edges.due("20 away", takes(fusion, 20, 0), true);
        edges.due("bestCost()", fusion.bestCost(), 102400L);
        fusion.setGate(19);
        edges.due("20 away with 19", fusion.canTake(0, 0), false);
        edges.due("bestCost() with 19", fusion.bestCost(), 92416L);
        edges.due("bestCostByTrying() with 19", fusion.bestCostByTrying(), 92416L);
        edges.due("goesTo(0) with 19", fusion.goesTo(0), -1);
        fusion.setGate(20);
        edges.due("goesTo(0) with 20", fusion.goesTo(0), 0);
        edges.due("process()", fusion.process(), 1);
    }

    @Sentence(of = "Promise 5", says = "Returns the gate before")
    static void promise5Returns(Edges edges) {
        TrackFusion fusion = new TrackFusion();
        edges.due("the first one", fusion.setGate(500), 20);
        edges.due("the second one", fusion.setGate(500), 500);
        edges.due("the same again", fusion.setGate(7), 500);
        edges.dueThrow("setGate(501)", WRONG, () -> fusion.setGate(501));
        edges.due("after a refused one", fusion.setGate(20), 7);
        edges.due("of another object", new TrackFusion().setGate(20), 20);
    }

    @Sentence(of = "Promise 5", says = "Throws `IllegalArgumentException` if the gate is out of range")
    static void promise5OutOfRange(Edges edges) {
        for (int gate : new int[] {0, 501, -1, -20, LEAST, GREATEST}) {
            edges.refused("setGate(" + gate + ")", WRONG, fusion -> fusion.setGate(gate));
        }
    }

    private static TrackFusion withFilter(int gain, int slope) {
        TrackFusion fusion = new TrackFusion();
        fusion.setFilter(gain, slope);
        return fusion;
    }

    /** The state of a track at (0, 0) that is seen at (16, -16) by 2 later. */
    private static String seenAway(TrackFusion fusion) {
        fusion.setGate(500);
        Runs.processAt(fusion, 0, 0, 0);
        Runs.processAt(fusion, 2, 16, -16);
        return Runs.state(fusion, 0);
    }

    @Sentence(of = "Terms: Changes of a track", says = "The gain is a number from 1 to 16, initially 8")
    static void termsGain(Edges edges) {
        edges.due("half at first", seenAway(new TrackFusion()), "2: 128 -128 32 -32");
        edges.due("a sixteenth with 1", seenAway(withFilter(1, 4)), "2: 16 -16 32 -32");
        edges.due("all with 16", seenAway(withFilter(16, 4)), "2: 256 -256 32 -32");
        edges.due("setFilter(1, 1) at first, divided by 100", new TrackFusion().setFilter(1, 1) / 100, 8);
        edges.dueThrow("setFilter(0, 4)", WRONG, () -> new TrackFusion().setFilter(0, 4));
        edges.dueThrow("setFilter(17, 4)", WRONG, () -> new TrackFusion().setFilter(17, 4));
    }

    @Sentence(of = "Terms: Changes of a track", says = "the slope is one from 0 to 16, initially 4")
    static void termsSlope(Edges edges) {
        edges.due("a quarter at first", seenAway(new TrackFusion()), "2: 128 -128 32 -32");
        edges.due("none with 0", seenAway(withFilter(8, 0)), "2: 128 -128 0 0");
        edges.due("a sixteenth with 1", seenAway(withFilter(8, 1)), "2: 128 -128 8 -8");
        edges.due("all with 16", seenAway(withFilter(8, 16)), "2: 128 -128 128 -128");
        edges.due("setFilter(1, 1) at first, without hundreds", new TrackFusion().setFilter(1, 1) % 100, 4);
        edges.dueThrow("setFilter(8, -1)", WRONG, () -> new TrackFusion().setFilter(8, -1));
        edges.dueThrow("setFilter(8, 17)", WRONG, () -> new TrackFusion().setFilter(8, 17));
    }

    @Sentence(of = "Promise 6", says = "`gain`: the gain, 1 to 16")
    static void promise6GainRange(Edges edges) {
        TrackFusion fusion = new TrackFusion();
        fusion.setFilter(1, 5);
        edges.due("after 1", fusion.setFilter(2, 5), 105);
        edges.due("after 2", fusion.setFilter(15, 5), 205);
        edges.due("after 15", fusion.setFilter(16, 5), 1505);
        edges.due("after 16", fusion.setFilter(1, 5), 1605);
        edges.dueThrow("0", WRONG, () -> fusion.setFilter(0, 5));
        edges.dueThrow("17", WRONG, () -> fusion.setFilter(17, 5));
    }

    @Sentence(of = "Promise 6", says = "`slope`: the slope, 0 to 16")
    static void promise6SlopeRange(Edges edges) {
        TrackFusion fusion = new TrackFusion();
        fusion.setFilter(5, 0);
        edges.due("after 0", fusion.setFilter(5, 1), 500);
        edges.due("after 1", fusion.setFilter(5, 15), 501);
        edges.due("after 15", fusion.setFilter(5, 16), 515);
        edges.due("after 16", fusion.setFilter(5, 0), 516);
        edges.dueThrow("-1", WRONG, () -> fusion.setFilter(5, -1));
        edges.dueThrow("17", WRONG, () -> fusion.setFilter(5, 17));
    }

    @Sentence(of = "Promise 6", says = "Sets the gain and the slope")
    static void promise6Sets(Edges edges) {
        TrackFusion fusion = withFilter(16, 16);
        Runs.processAt(fusion, 0, 0, 0);
        Runs.reportAt(fusion, 2, 16, -8);
        fusion.setFilter(4, 2);
        fusion.process();
        edges.due("those of the processing count", Runs.state(fusion, 0), "2: 64 -32 16 -8");
    }

    @Sentence(of = "Promise 6", says = "Returns 100 times the gain before, plus the slope before")
    static void promise6Returns(Edges edges) {
        TrackFusion fusion = new TrackFusion();
        edges.due("the first ones", fusion.setFilter(16, 16), 804);
        edges.due("the greatest ones", fusion.setFilter(1, 0), 1616);
        edges.due("the least ones", fusion.setFilter(3, 11), 100);
        edges.dueThrow("setFilter(4, 17)", WRONG, () -> fusion.setFilter(4, 17));
        edges.dueThrow("setFilter(0, 4)", WRONG, () -> fusion.setFilter(0, 4));
        edges.due("after refused ones", fusion.setFilter(8, 4), 311);
    }

    @Sentence(of = "Promise 6", says = "Throws `IllegalArgumentException` if the gain or the slope is out of range")
    static void promise6OutOfRange(Edges edges) {
        for (int gain : new int[] {0, 17, -1, -8, LEAST, GREATEST}) {
            edges.refused("setFilter(" + gain + ", 3)", WRONG, fusion -> fusion.setFilter(gain, 3));
            edges.refused("setFilter(" + gain + ", 17)", WRONG, fusion -> fusion.setFilter(gain, 17));
        }
        for (int slope : new int[] {-1, 17, -4, LEAST, GREATEST}) {
            edges.refused("setFilter(3, " + slope + ")", WRONG, fusion -> fusion.setFilter(3, slope));
        }
    }

    /** The number of misses in a row with which a track is lost. */
    private static int missesToBeLost(TrackFusion fusion) {
        fusion.setNearness(0);
        fusion.setGate(1);
        Runs.processAt(fusion, 0, 0, 0);
        for (int i = 1; i <= 12; i++) {
            Runs.processAt(fusion, 0, 100, 100);
            if (fusion.status(0) == 'l') {
                return i;
            }
        }
        return 0;
    }

    private static TrackFusion withLimit(int limit) {
        TrackFusion fusion = new TrackFusion();
        fusion.setLimit(limit);
        return fusion;
    }

    @Sentence(of = "Terms: Processing", says = "which is a number from 1 to 9 and initially 3")
    static void termsLimit(Edges edges) {
        edges.due("misses at first", missesToBeLost(new TrackFusion()), 3);
        for (int limit = 1; limit <= 9; limit++) {
            edges.due("misses with " + limit, missesToBeLost(withLimit(limit)), limit);
        }
        edges.due("setLimit(1) at first", new TrackFusion().setLimit(1), 3);
        edges.dueThrow("setLimit(0)", WRONG, () -> new TrackFusion().setLimit(0));
        edges.dueThrow("setLimit(10)", WRONG, () -> new TrackFusion().setLimit(10));
    }

    @Sentence(of = "Promise 7", says = "`limit`: the limit, 1 to 9")
    static void promise7Range(Edges edges) {
        TrackFusion fusion = new TrackFusion();
        fusion.setLimit(1);
        edges.due("after 1", fusion.setLimit(2), 1);
        edges.due("after 2", fusion.setLimit(8), 2);
        edges.due("after 8", fusion.setLimit(9), 8);
        edges.due("after 9", fusion.setLimit(1), 9);
    }

    @Sentence(of = "Promise 7", says = "Sets the limit of misses")
    static void promise7Sets(Edges edges) {
        TrackFusion fusion = withLimit(2);
        Runs.processAt(fusion, 0, 0, 0);
        Runs.reportAt(fusion, 0, 300, 0);
        fusion.setLimit(1);
        fusion.process();
        edges.due("that of the processing counts", fusion.status(0), 'l');
    }

    @Sentence(of = "Promise 7", says = "Tracks that have as many misses already stay live until their next miss")
    static void promise7StayLive(Edges edges) {
        TrackFusion fusion = Runs.with(1, 8, 4, 9, 0);
        Runs.processAt(fusion, 0, 0, 0, 100, 0, 200, 0, 300, 0);
        Runs.processAt(fusion, 0, 200, 0, 300, 0);
        Runs.processAt(fusion, 0, 300, 0);
        edges.due("misses", fusion.misses(0) + " " + fusion.misses(1) + " " + fusion.misses(2) + " "
            + fusion.misses(3), "2 2 1 0");
        fusion.setLimit(2);
        edges.due("with as many", Runs.account(fusion, 0), "t 1 2 nxx");
        fusion.setLimit(1);
        edges.due("with more", Runs.account(fusion, 0), "t 1 2 nxx");
        edges.due("with as many", Runs.account(fusion, 2), "t 2 1 nhx");
        edges.due("liveTracks()", fusion.liveTracks(), 4);
        fusion.setLimit(2);
        Runs.processAt(fusion, 0, 0, 0);
        edges.due("a hit comes first", Runs.account(fusion, 0), "t 2 0 nxxh");
        edges.due("the next miss, beyond the limit", Runs.account(fusion, 1), "l 1 3 nxxxl");
        edges.due("the next miss, to the limit", Runs.account(fusion, 2), "l 2 2 nhxxl");
        edges.due("the next miss, below the limit", Runs.account(fusion, 3), "c 3 1 nhhx");
    }

    @Sentence(of = "Promise 7", says = "Returns the limit before")
    static void promise7Returns(Edges edges) {
        TrackFusion fusion = new TrackFusion();
        edges.due("the first one", fusion.setLimit(9), 3);
        edges.due("the second one", fusion.setLimit(9), 9);
        edges.due("the same again", fusion.setLimit(4), 9);
        edges.dueThrow("setLimit(10)", WRONG, () -> fusion.setLimit(10));
        edges.due("after a refused one", fusion.setLimit(3), 4);
    }

    @Sentence(of = "Promise 7", says = "Throws `IllegalArgumentException` if the limit is out of range")
    static void promise7OutOfRange(Edges edges) {
        for (int limit : new int[] {0, 10, -1, -3, LEAST, GREATEST}) {
            edges.refused("setLimit(" + limit + ")", WRONG, fusion -> fusion.setLimit(limit));
        }
    }

    /** Tells whether two tracks are merged that are so far apart. */
    private static boolean merges(TrackFusion fusion, int x, int y) {
        Runs.processAt(fusion, 0, 0, 0, x, y);
        return fusion.status(1) == 'm';
    }

    private static TrackFusion withNearness(int nearness) {
        TrackFusion fusion = new TrackFusion();
        fusion.setNearness(nearness);
        return fusion;
    }

    @Sentence(of = "Terms: Merging", says = "The nearness is a number from 0 to 100, initially 2")
    static void termsNearness(Edges edges) {
        edges.due("2 apart at first", merges(new TrackFusion(), 0, 2), true);
        edges.due("a little more than 2 apart at first", merges(new TrackFusion(), 1, 2), false);
        edges.due("at one place with 0", merges(withNearness(0), 0, 0), true);
        edges.due("1 apart with 0", merges(withNearness(0), 0, 1), false);
        edges.due("100 apart with 100", merges(withNearness(100), 60, -80), true);
        edges.due("a little more than 100 apart with 100", merges(withNearness(100), 60, -81), false);
        edges.due("setNearness(5) at first", new TrackFusion().setNearness(5), 2);
        edges.dueThrow("setNearness(-1)", WRONG, () -> new TrackFusion().setNearness(-1));
        edges.dueThrow("setNearness(101)", WRONG, () -> new TrackFusion().setNearness(101));
    }

    @Sentence(of = "Promise 8", says = "`nearness`: the nearness, 0 to 100")
    static void promise8Range(Edges edges) {
        TrackFusion fusion = new TrackFusion();
        fusion.setNearness(0);
        edges.due("after 0", fusion.setNearness(1), 0);
        edges.due("after 1", fusion.setNearness(99), 1);
        edges.due("after 99", fusion.setNearness(100), 99);
        edges.due("after 100", fusion.setNearness(0), 100);
    }

    @Sentence(of = "Promise 8", says = "Sets the nearness")
    static void promise8Sets(Edges edges) {
        TrackFusion fusion = withNearness(0);
        Runs.processAt(fusion, 0, 0, 0, 3, 0);
        fusion.setNearness(3);
        edges.due("merges only with a processing", fusion.liveTracks(), 2);
        Runs.reportAt(fusion, 0, 300, 0);
        fusion.setNearness(2);
        fusion.process();
        edges.due("that of the processing counts", fusion.liveTracks(), 3);
        fusion.setNearness(3);
        Runs.processAt(fusion, 0, 300, 0);
        edges.due("so it does later", fusion.liveTracks(), 2);
    }

    @Sentence(of = "Promise 8", says = "Returns the nearness before")
    static void promise8Returns(Edges edges) {
        TrackFusion fusion = new TrackFusion();
        edges.due("the first one", fusion.setNearness(100), 2);
        edges.due("the second one", fusion.setNearness(100), 100);
        edges.due("the same again", fusion.setNearness(50), 100);
        edges.dueThrow("setNearness(101)", WRONG, () -> fusion.setNearness(101));
        edges.due("after a refused one", fusion.setNearness(2), 50);
    }

    @Sentence(of = "Promise 8", says = "Throws `IllegalArgumentException` if the nearness is out of range")
    static void promise8OutOfRange(Edges edges) {
        for (int nearness : new int[] {-1, 101, -2, LEAST, GREATEST}) {
            edges.refused("setNearness(" + nearness + ")", WRONG, fusion -> fusion.setNearness(nearness));
        }
    }
}
