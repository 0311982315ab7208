/** The edges of what processing does: the terms on processing, changes of a track, merging, and histories. */
final class ProcessingEdges {
    private ProcessingEdges() {
    }

    private static String accounts(TrackFusion fusion) {
        StringBuilder accounts = new StringBuilder();
        for (int track = 0; track < fusion.tracks(); track++) {
            accounts.append(track == 0 ? "" : ", ").append(Runs.account(fusion, track));
        }
        return accounts.toString();
    }

    @Sentence(of = "Terms: Processing",
        says = "first each report that goes to a track by the best assignment changes this track")
    static void termsReportsChangeTracks(Edges edges) {
        TrackFusion fusion = Runs.with(20, 16, 4, 2, 0);
        Runs.processAt(fusion, 0, 0, 0, 100, 0, 200, 0, 300, 0);
        edges.due("four of four", Runs.processAt(fusion, 0, 301, 0, 201, 0, 101, 0, 1, 0), 4);
        edges.due("accounts", accounts(fusion), "t 2 0 nh, t 2 0 nh, t 2 0 nh, t 2 0 nh");
        edges.due("the first", Runs.state(fusion, 0), "0: 16 0 0 0");
        edges.due("the fourth", Runs.state(fusion, 3), "0: 4816 0 0 0");
        Runs.processAt(fusion, 0, 1, 0);
        edges.due("one of four", Runs.processAt(fusion, 0, 1, 0, 101, 0), 2);
        edges.due("a hit comes before a miss that would be too many", accounts(fusion),
            "c 4 0 nhhh, c 3 0 nhxh, l 2 2 nhxxl, l 2 2 nhxxl");
    }

    @Sentence(of = "Terms: Processing", says = "Then the misses of each other live track increase by 1")
    static void termsMisses(Edges edges) {
        TrackFusion fusion = Runs.with(1, 8, 4, 9, 2);
        Runs.processAt(fusion, 0, 0, 0, 100, 0, 102, 0, 300, 0);
        Runs.processAt(fusion, 0, 0, 0, 900, 0);
        edges.due("the one that is hit, others, one that is merged, a new one", accounts(fusion),
            "t 2 0 nh, t 2 1 ngx, m 1 0 nm, t 1 1 nx, t 1 0 n");
        fusion.setLimit(1);
        Runs.processAt(fusion, 0, 0, 0);
        Runs.processAt(fusion, 0, 0, 0);
        edges.due("lost ones miss nothing more", accounts(fusion),
            "c 4 0 nhhh, l 2 2 ngxxl, m 1 0 nm, l 1 2 nxxl, l 1 1 nxl");
        Runs.processAt(fusion, 0, -900, 0);
        edges.due("with no report for any track", Runs.account(fusion, 0), "l 4 1 nhhhxl");
    }

    @Sentence(of = "Terms: Processing", says = "if they are not less than the limit then")
    static void termsMissesAndLimit(Edges edges) {
        for (int limit = 1; limit <= 9; limit++) {
            TrackFusion fusion = Runs.with(1, 8, 4, limit, 0);
            Runs.processAt(fusion, 0, 0, 0);
            for (int miss = 1; miss < limit; miss++) {
                Runs.processAt(fusion, 0, 500, 500);
                edges.due(miss + " misses with a limit of " + limit, fusion.status(0), 't');
            }
            edges.due("misses", fusion.misses(0), limit - 1);
            Runs.processAt(fusion, 0, 500, 500);
            edges.due(limit + " misses with a limit of " + limit, fusion.status(0), 'l');
            edges.due("misses", fusion.misses(0), limit);
        }
        TrackFusion lowered = Runs.with(1, 8, 4, 9, 0);
        Runs.processAt(lowered, 0, 0, 0);
        for (int i = 0; i < 8; i++) {
            Runs.processAt(lowered, 0, 500, 500);
        }
        lowered.setLimit(2);
        Runs.processAt(lowered, 0, 500, 500);
        edges.due("more than the limit", Runs.account(lowered, 0), "l 1 9 nxxxxxxxxxl");
    }

    @Sentence(of = "Terms: Processing",
        says = "Then each report that goes to none begins a track, in the order of the reports")
    static void termsBegin(Edges edges) {
        TrackFusion fusion = Runs.with(20, 8, 4, 3, 0);
        Runs.processAt(fusion, 0, 0, 0);
        fusion.report(0, 9, 900, 0);
        fusion.report(0, 2, 0, 0);
        fusion.report(0, 5, -900, 0);
        fusion.report(0, 7, 0, 900);
        edges.due("process()", fusion.process(), 1);
        edges.due("tracks()", fusion.tracks(), 4);
        edges.due("the first one", Runs.state(fusion, 1), "9: 14400 0 0 0");
        edges.due("the third one", Runs.state(fusion, 2), "5: -14400 0 0 0");
        edges.due("the fourth one", Runs.state(fusion, 3), "7: 0 14400 0 0");
    }

    @Sentence(of = "Terms: Processing", says = "its time and its position are those of the report, the coordinates times "
        + "16, its velocity is 0, it has 1 hit and no misses")
    static void termsBegunTrack(Edges edges) {
        TrackFusion fusion = new TrackFusion();
        Runs.addPairs(fusion, 1, 9998, 0, 9999, 2);
        Runs.addPairs(fusion, 2, 0, 9997, 1, 9999);
        fusion.report(1, 0, -999, 999);
        fusion.report(2, 9999, 999, -999);
        fusion.report(0, 0, 0, 0);
        fusion.process();
        edges.due("the earliest", Runs.state(fusion, 0), "-19996: -15984 15984 0 0");
        edges.due("the latest", Runs.state(fusion, 1), "29995: 15984 -15984 0 0");
        edges.due("at nothing but zeros", Runs.state(fusion, 2), "0: 0 0 0 0");
        edges.due("accounts", accounts(fusion), "t 1 0 n, t 1 0 n, t 1 0 n");
    }

    @Sentence(of = "Terms: Processing", says = "but if 6 tracks are live")
    static void termsSixLive(Edges edges) {
        TrackFusion fusion = Runs.with(1, 8, 4, 3, 0);
        Runs.processAt(fusion, 0, 0, 0, 100, 0, 200, 0, 300, 0);
        Runs.processAt(fusion, 0, 400, 0);
        edges.due("five live ones", fusion.liveTracks() + " " + fusion.dropped(), "5 0");
        Runs.processAt(fusion, 0, 500, 0, 600, 0);
        edges.due("the sixth begins, the seventh is dropped", fusion.liveTracks() + " " + fusion.dropped(), "6 1");
        edges.due("the sixth", Runs.state(fusion, 5), "0: 8000 0 0 0");
        edges.due("tracks()", fusion.tracks(), 6);
        Runs.processAt(fusion, 0, 0, 0, 100, 0, 700, 0, 800, 0);
        edges.due("those that are lost first make room", fusion.liveTracks() + " " + fusion.dropped(), "6 1");
        edges.due("accounts", accounts(fusion),
            "t 2 0 nxxh, t 2 0 nxxh, l 1 3 nxxxl, l 1 3 nxxxl, t 1 2 nxx, t 1 1 nx, t 1 0 n, t 1 0 n");
        TrackFusion merging = Runs.with(1, 8, 4, 9, 50);
        Runs.processAt(merging, 0, 0, 0, 100, 0, 200, 0, 300, 0);
        Runs.processAt(merging, 0, 400, 0);
        Runs.processAt(merging, 0, 410, 0, 420, 0);
        edges.due("those that are merged make no room", merging.liveTracks() + " " + merging.dropped(), "5 1");
        Runs.processAt(merging, 0, 500, 0);
        edges.due("but they do for the next batch", merging.liveTracks() + " " + merging.dropped(), "6 1");
    }

    @Sentence(of = "Terms: Processing", says = "or 60 have been begun, the report is dropped")
    static void termsSixtyBegun(Edges edges) {
        TrackFusion fusion = Runs.with(1, 8, 4, 1, 0);
        for (int i = 0; i < 14; i++) {
            int y = i % 2 == 0 ? 600 : -600;
            Runs.processAt(fusion, i, -900, y, -300, y, 300, y, 900, y);
        }
        Runs.processAt(fusion, 14, -900, 600, 900, 600);
        edges.due("58 begun", fusion.tracks() + " " + fusion.liveTracks() + " " + fusion.dropped(), "58 2 0");
        Runs.processAt(fusion, 15, -900, -600, 0, -600, 900, -600);
        edges.due("60 begun", fusion.tracks() + " " + fusion.liveTracks() + " " + fusion.dropped(), "60 2 1");
        edges.due("the last one", Runs.state(fusion, 59), "15: 0 -9600 0 0");
        Runs.processAt(fusion, 16, 0, -600, 500, 500);
        edges.due("one that is live goes on", Runs.account(fusion, 59), "t 2 0 nh");
        edges.due("another is dropped", fusion.tracks() + " " + fusion.liveTracks() + " " + fusion.dropped(), "60 1 2");
        Runs.processAt(fusion, 17, 1, 1, 2, 2, 3, 3, 4, 4);
        edges.due("all are dropped", fusion.tracks() + " " + fusion.liveTracks() + " " + fusion.dropped(), "60 0 6");
        edges.due("isBalanced()", fusion.isBalanced(), true);
        Runs.processAt(fusion, 18, 1, 1);
        edges.due("without live ones too", fusion.tracks() + " " + fusion.liveTracks() + " " + fusion.dropped(),
            "60 0 7");
    }

    @Sentence(of = "Terms: Processing", says = "Then tracks are merged")
    static void termsThenMerged(Edges edges) {
        TrackFusion fusion = new TrackFusion();
        Runs.processAt(fusion, 0, 0, 0, 2, 0);
        edges.due("new ones", accounts(fusion), "t 2 0 ng, m 1 0 nm");
        TrackFusion moved = Runs.with(5, 16, 0, 3, 2);
        Runs.processAt(moved, 0, 0, 0, 5, 0);
        Runs.processAt(moved, 0, 0, 0, 2, 0);
        edges.due("changed ones", accounts(moved), "c 4 0 nhg, m 2 0 nhm");
        TrackFusion lost = Runs.with(1, 16, 0, 1, 2);
        Runs.processAt(lost, 0, 0, 0);
        Runs.processAt(lost, 0, 2, 0);
        edges.due("a lost one is not", accounts(lost), "l 1 1 nxl, t 1 0 n");
    }

    @Sentence(of = "Terms: Processing", says = "Then the batch is empty")
    static void termsThenEmpty(Edges edges) {
        for (Scene scene : new Scene[] {Scene.BUSY, Scene.FULL, Scene.SIXTY}) {
            TrackFusion fusion = scene.make();
            fusion.process();
            edges.due(scene + ": batch()", fusion.batch(), 0);
            edges.due(scene + ": bestCost()", fusion.bestCost(), 0L);
            edges.dueThrow(scene + ": goesTo(0)", IndexOutOfBoundsException.class, () -> fusion.goesTo(0));
            edges.dueThrow(scene + ": process()", IllegalStateException.class, fusion::process);
            edges.due(scene + ": report", fusion.report(0, 9, 9, 9), 0);
        }
    }

    @Sentence(of = "Terms: Changes of a track", says = "the residual of a coordinate is 16 times that of its place minus "
        + "that of the predicted position at its time")
    static void termsResidual(Edges edges) {
        TrackFusion fusion = Runs.moving(0);
        fusion.setFilter(16, 16);
        Runs.processAt(fusion, 16, 4, 2);
        edges.due("no residual", Runs.state(fusion, 0), "16: 64 32 8 4");
        Runs.processAt(fusion, 20, 6, 3);
        edges.due("no residual", Runs.state(fusion, 0), "20: 96 48 8 4");
        Runs.processAt(fusion, 22, 8, 2);
        edges.due("residuals of 16 and -24", Runs.state(fusion, 0), "22: 128 32 16 -8");
    }

    /** The first coordinate of a track and minus the second one, after reports that differ by the residual. */
    private static String followed(int residual, int gain, int slope, int passed) {
        int place = Math.floorDiv(residual + 15, 16);
        TrackFusion fusion = Runs.atSixteenths(16 * place - residual, residual - 16 * place);
        fusion.setGate(500);
        fusion.setFilter(gain, slope);
        Runs.processAt(fusion, passed, place, -place);
        int changed = fusion.stateOf(0, 0) - (16 * place - residual);
        boolean isAlike = fusion.stateOf(0, 0) == -fusion.stateOf(0, 1) && fusion.stateOf(0, 2) == -fusion.stateOf(0, 3);
        return fusion.hits(0) + ": " + changed + " " + fusion.stateOf(0, 2) + " " + isAlike;
    }

    @Sentence(of = "Terms: Changes of a track", says = "The coordinate of the position becomes the predicted one plus the "
        + "residual times the gain, divided by 16, rounded toward 0")
    static void termsPositionRounded(Edges edges) {
        int[][] rows = {{0, 16, 0}, {1, 16, 1}, {-1, 16, -1}, {15, 1, 0}, {16, 1, 1}, {31, 1, 1}, {32, 1, 2},
            {-15, 1, 0}, {-16, 1, -1}, {-31, 1, -1}, {-32, 1, -2}, {1, 8, 0}, {2, 8, 1}, {3, 8, 1}, {-1, 8, 0},
            {-2, 8, -1}, {-3, 8, -1}, {1, 15, 0}, {-1, 15, 0}, {2, 15, 1}, {-2, 15, -1}, {5, 3, 0}, {6, 3, 1},
            {-5, 3, 0}, {-6, 3, -1}, {-100, 7, -43}, {100, 7, 43}};
        for (int[] row : rows) {
            edges.due("a residual of " + row[0] + " with a gain of " + row[1], followed(row[0], row[1], 0, 0),
                "3: " + row[2] + " 0 true");
        }
        TrackFusion moving = Runs.moving(0);
        moving.setFilter(5, 0);
        Runs.processAt(moving, 15, 4, 2);
        edges.due("residuals of 8 and 4 from the predicted ones", Runs.state(moving, 0), "15: 58 29 8 4");
    }

    @Sentence(of = "Terms: Changes of a track", says = "If the time of the report is greater than that of the track")
    static void termsLaterReport(Edges edges) {
        edges.due("at the same time", followed(16, 16, 16, 0), "3: 16 0 true");
        edges.due("1 later", followed(16, 16, 16, 1), "3: 16 16 true");
        TrackFusion moving = Runs.moving(0);
        Runs.processAt(moving, 12, 10, -10);
        edges.due("the velocity stays at the same time", Runs.state(moving, 0), "12: 96 -72 8 4");
        edges.due("but the rest changes", Runs.account(moving, 0), "c 3 0 nhh");
    }

    @Sentence(of = "Terms: Changes of a track", says = "the coordinate of the velocity increases by the residual times the "
        + "slope, divided by 16 times the difference of both times, rounded toward 0")
    static void termsVelocityRounded(Edges edges) {
        int[][] rows = {{15, 1, 1, 0}, {16, 1, 1, 1}, {-15, 1, 1, 0}, {-16, 1, 1, -1}, {31, 1, 1, 1}, {-31, 1, 1, -1},
            {32, 1, 1, 2}, {31, 1, 2, 0}, {32, 1, 2, 1}, {-31, 1, 2, 0}, {-32, 1, 2, -1}, {7, 4, 2, 0}, {8, 4, 2, 1},
            {-7, 4, 2, 0}, {-8, 4, 2, -1}, {-1, 16, 1, -1}, {1, 16, 1, 1}, {1, 16, 2, 0}, {-1, 16, 2, 0},
            {5000, 16, 5000, 1}, {4999, 16, 5000, 0}, {-5000, 16, 5000, -1}, {-4999, 16, 5000, 0}, {100, 7, 3, 14},
            {-100, 7, 3, -14}, {5000, 16, 9999, 0}, {5000, 0, 1, 0}};
        for (int[] row : rows) {
            edges.due("a residual of " + row[0] + " with a slope of " + row[1] + ", " + row[2] + " later",
                followed(row[0], 16, row[1], row[2]), "3: " + row[0] + " " + row[3] + " true");
        }
        TrackFusion fusion = Runs.with(500, 16, 5, 9, 0);
        Runs.processAt(fusion, 0, 0, 0);
        Runs.processAt(fusion, 3, 10, -10);
        edges.due("from nothing", Runs.state(fusion, 0), "3: 160 -160 16 -16");
        Runs.processAt(fusion, 4, 10, -10);
        edges.due("less by 5", Runs.state(fusion, 0), "4: 160 -160 11 -11");
        Runs.processAt(fusion, 6, 10, -10);
        edges.due("less by 3", Runs.state(fusion, 0), "6: 160 -160 8 -8");
    }

    /** A track that is seen so many places away, 1 later, and follows wholly. */
    private static TrackFusion swift(int first) {
        TrackFusion fusion = Runs.with(500, 16, 16, 9, 0);
        Runs.processAt(fusion, 0, 0, 0);
        Runs.processAt(fusion, 1, first, -first);
        return fusion;
    }

    @Sentence(of = "Terms: Changes of a track", says = "a result below -1600 becomes -1600")
    static void termsLeastVelocity(Edges edges) {
        edges.due("-1584", Runs.state(swift(-99), 0), "1: -1584 1584 -1584 1584");
        edges.due("-1600", Runs.state(swift(-100), 0), "1: -1600 1600 -1600 1600");
        edges.due("-1616", Runs.state(swift(-101), 0), "1: -1616 1616 -1600 1600");
        edges.due("-1599", followed(-1599, 16, 16, 1), "3: -1599 -1599 true");
        edges.due("-1600", followed(-1600, 16, 16, 1), "3: -1600 -1600 true");
        edges.due("-1601", followed(-1601, 16, 16, 1), "3: -1601 -1600 true");
        TrackFusion fusion = swift(-100);
        Runs.processAt(fusion, 2, -201, 201);
        edges.due("-1600 and less by 16", Runs.state(fusion, 0), "2: -3216 3216 -1600 1600");
        Runs.processAt(fusion, 3, -300, 300);
        edges.due("-1600 and more by 16", Runs.state(fusion, 0), "3: -4800 4800 -1584 1584");
    }

    @Sentence(of = "Terms: Changes of a track", says = "and one above 1600 becomes 1600")
    static void termsGreatestVelocity(Edges edges) {
        edges.due("1584", Runs.state(swift(99), 0), "1: 1584 -1584 1584 -1584");
        edges.due("1600", Runs.state(swift(100), 0), "1: 1600 -1600 1600 -1600");
        edges.due("1616", Runs.state(swift(101), 0), "1: 1616 -1616 1600 -1600");
        edges.due("1599", followed(1599, 16, 16, 1), "3: 1599 1599 true");
        edges.due("1600", followed(1600, 16, 16, 1), "3: 1600 1600 true");
        edges.due("1601", followed(1601, 16, 16, 1), "3: 1601 1600 true");
        TrackFusion fusion = swift(100);
        Runs.processAt(fusion, 2, 201, -201);
        edges.due("1600 and more by 16", Runs.state(fusion, 0), "2: 3216 -3216 1600 -1600");
        Runs.processAt(fusion, 3, 0, 0);
        edges.due("1600 and less by 4816", Runs.state(fusion, 0), "3: 0 0 -1600 1600");
    }

    @Sentence(of = "Terms: Changes of a track",
        says = "The time of the track becomes that of the report, its hits increase by 1, and its misses become 0")
    static void termsTimeHitsMisses(Edges edges) {
        TrackFusion fusion = Runs.with(1, 8, 4, 9, 0);
        Runs.processAt(fusion, 0, 0, 0);
        Runs.processAt(fusion, 0, 500, 0);
        Runs.processAt(fusion, 0, 500, 0);
        edges.due("before", fusion.timeOf(0) + " " + fusion.hits(0) + " " + fusion.misses(0), "0 1 2");
        Runs.processAt(fusion, 9999, 0, 0);
        edges.due("after", fusion.timeOf(0) + " " + fusion.hits(0) + " " + fusion.misses(0), "9999 2 0");
        Runs.processAt(fusion, 9999, 0, 0);
        edges.due("at the same time", fusion.timeOf(0) + " " + fusion.hits(0) + " " + fusion.misses(0), "9999 3 0");
    }

    @Sentence(of = "Terms: Merging", says = "Each pair of tracks is looked at once, in ascending order of the lower "
        + "number, and then of the higher number")
    static void termsMergingOrder(Edges edges) {
        Object[][] rows = {{0, 2, 4, 6, "t 2 0 ng, m 1 0 nm, t 2 0 ng, m 1 0 nm"},
            {2, 0, 4, 6, "c 3 0 ngg, m 1 0 nm, m 1 0 nm, t 1 0 n"},
            {0, 6, 4, 2, "t 2 0 ng, t 2 0 ng, m 1 0 nm, m 1 0 nm"},
            {0, 1, 2, 3, "c 3 0 ngg, m 1 0 nm, m 1 0 nm, t 1 0 n"},
            {0, 0, 0, 0, "c 4 0 nggg, m 1 0 nm, m 1 0 nm, m 1 0 nm"},
            {0, 3, 6, 9, "t 1 0 n, t 1 0 n, t 1 0 n, t 1 0 n"}, {0, 9, 7, 0, "t 2 0 ng, t 2 0 ng, m 1 0 nm, m 1 0 nm"}};
        for (Object[] row : rows) {
            TrackFusion fusion = new TrackFusion();
            Runs.processAt(fusion, 0, (Integer) row[0], 0, (Integer) row[1], 0, (Integer) row[2], 0, (Integer) row[3],
                0);
            edges.due("at " + row[0] + ", " + row[1] + ", " + row[2] + ", " + row[3], accounts(fusion), row[4]);
        }
    }

    @Sentence(of = "Terms: Merging", says = "If both are live then")
    static void termsMergingLive(Edges edges) {
        TrackFusion chain = new TrackFusion();
        Runs.processAt(chain, 0, 0, 0, 2, 0, 4, 0);
        edges.due("the one in the middle takes nothing in any more", accounts(chain), "t 2 0 ng, m 1 0 nm, t 1 0 n");
        Runs.processAt(chain, 0, 4, 0, 0, 0);
        edges.due("nor is it merged again", accounts(chain), "c 3 0 ngh, m 1 0 nm, t 2 0 nh");
        TrackFusion lost = Runs.with(1, 8, 4, 1, 0);
        Runs.processAt(lost, 0, 0, 0, 100, 0);
        Runs.processAt(lost, 0, 100, 0);
        lost.setNearness(100);
        Runs.processAt(lost, 0, 100, 0, 50, 0);
        edges.due("a lost one takes nothing in, and is not taken in", accounts(lost),
            "l 1 1 nxl, c 4 0 nhhg, m 1 0 nm");
    }

    /** What becomes of the moving track and of one that is begun then. */
    private static String besideMoving(int nearness, int time, int x, int y) {
        TrackFusion fusion = Runs.moving(nearness);
        fusion.setGate(1);
        Runs.processAt(fusion, time, x, y);
        return accounts(fusion);
    }

    @Sentence(of = "Terms: Merging", says = "both are looked at as predicted at the later one of their times")
    static void termsMergingTime(Edges edges) {
        String merged = "c 3 1 nhxg, m 1 0 nm";
        String apart = "t 2 1 nhx, t 1 0 n";
        edges.due("the new one is later, near where the other will be", besideMoving(2, 28, 10, 7), merged);
        edges.due("the new one is later, a little further from there", besideMoving(2, 28, 11, 7), apart);
        edges.due("the new one is later, where the other is", besideMoving(2, 28, 2, 1), apart);
        edges.due("the new one is earlier, where the other is", besideMoving(0, 8, 2, 1), merged);
        edges.due("the new one is earlier, where the other was", besideMoving(0, 8, 0, 0), apart);
        TrackFusion fusion = Runs.with(20, 8, 4, 9, 0);
        Runs.processAt(fusion, 12, 2, 1);
        Runs.processAt(fusion, 2, 60, 60);
        fusion.setGate(500);
        Runs.processAt(fusion, 4, 64, 62);
        edges.due("the higher one moves", Runs.state(fusion, 1), "4: 992 976 8 4");
        fusion.setNearness(89);
        Runs.processAt(fusion, 4, -900, 900);
        edges.due("the higher one, at the later time, too far", fusion.status(1), 't');
        fusion.setNearness(90);
        Runs.processAt(fusion, 4, -900, 900);
        edges.due("the higher one, at the later time, near", fusion.status(1), 'm');
    }

    /** Tells whether a track that is so many sixteenths from (0, 0) takes in one at the place, which is earlier. */
    private static boolean takesIn(int sixteenthsX, int sixteenthsY, int nearness, int x, int y) {
        TrackFusion fusion = Runs.atSixteenths(sixteenthsX, sixteenthsY);
        fusion.setNearness(nearness);
        fusion.addPair(3, 1, 0);
        fusion.report(3, 0, x, y);
        fusion.process();
        return fusion.status(1) == 'm';
    }

    @Sentence(of = "Terms: Merging", says = "If the sum of the squares of the differences of their coordinates is not "
        + "greater than the square of 16 times the nearness")
    static void termsMergingPlaces(Edges edges) {
        edges.due("256 with 1", takesIn(0, 0, 1, 1, 0), true);
        edges.due("257 with 1", takesIn(0, 1, 1, 1, 0), false);
        edges.due("225 with 1", takesIn(0, 1, 1, 0, 1), true);
        edges.due("289 with 1", takesIn(0, -1, 1, 0, 1), false);
        edges.due("0 with 0", takesIn(0, 0, 0, 0, 0), true);
        edges.due("1 with 0", takesIn(1, 0, 0, 0, 0), false);
        edges.due("1 with 0", takesIn(0, -1, 0, 0, 0), false);
        edges.due("1600 times 1600 with 100", takesIn(0, 0, 100, 100, 0), true);
        edges.due("1600 times 1600, and 1, with 100", takesIn(0, 1, 100, 100, 0), false);
        edges.due("1600 times 1600 with 100", takesIn(0, 0, 100, -60, 80), true);
        edges.due("more by 2561 with 100", takesIn(0, -1, 100, -60, 80), false);
        edges.due("far apart with 100", takesIn(0, 0, 100, 999, -999), false);
    }

    /** What becomes of two tracks with these velocities, 2 apart, with a nearness of 100. */
    private static char withVelocities(int firstX, int firstY, int secondX, int secondY) {
        TrackFusion fusion = Runs.with(30, 16, 16, 9, 0);
        Runs.processAt(fusion, 0, 0, 0, 60, 0);
        Runs.processAt(fusion, 16, firstX, firstY, 60 + secondX, secondY);
        fusion.setNearness(100);
        Runs.processAt(fusion, 16, 900, 900);
        return fusion.status(1);
    }

    @Sentence(of = "Terms: Merging", says = "and the sum of the absolute differences of the coordinates of their velocities "
        + "is not greater than 16")
    static void termsMergingVelocities(Edges edges) {
        edges.due("16 along the first", withVelocities(16, 0, 0, 0), 'm');
        edges.due("17 along the first", withVelocities(17, 0, 0, 0), 't');
        edges.due("-16 along the first", withVelocities(0, 0, 16, 0), 'm');
        edges.due("-17 along the first", withVelocities(0, 0, 17, 0), 't');
        edges.due("16 along the second", withVelocities(0, 9, 0, -7), 'm');
        edges.due("17 along the second", withVelocities(0, 9, 0, -8), 't');
        edges.due("-16 along the second", withVelocities(0, -9, 0, 7), 'm');
        edges.due("-17 along the second", withVelocities(0, -9, 0, 8), 't');
        edges.due("8 and 8", withVelocities(4, 4, -4, -4), 'm');
        edges.due("8 and -8", withVelocities(4, -4, -4, 4), 'm');
        edges.due("9 and 8", withVelocities(5, 4, -4, -4), 't');
        edges.due("-8 and 9", withVelocities(-4, 5, 4, -4), 't');
        edges.due("none", withVelocities(20, -20, 20, -20), 'm');
    }

    @Sentence(of = "Terms: Merging", says = "the track with the higher number is merged into the other one")
    static void termsMergedInto(Edges edges) {
        TrackFusion fusion = new TrackFusion();
        Runs.processAt(fusion, 0, 900, 0, 2, 0, 0, 0);
        edges.due("mergedInto(2)", fusion.mergedInto(2), 1);
        edges.due("statuses", "" + fusion.status(0) + fusion.status(1) + fusion.status(2), "ttm");
        edges.due("liveTracks()", fusion.liveTracks(), 2);
    }

    @Sentence(of = "Terms: Merging",
        says = "the hits of that one increase by its hits, and nothing else of it changes")
    static void termsMergedHits(Edges edges) {
        TrackFusion fusion = Runs.with(20, 8, 4, 9, 0);
        Runs.processAt(fusion, 10, 0, 0);
        Runs.processAt(fusion, 12, 4, 2);
        Runs.processAt(fusion, 2, 3, 3);
        Runs.processAt(fusion, 12, 900, 0);
        edges.due("before", accounts(fusion), "t 2 2 nhxx, t 1 1 nx, t 1 0 n");
        fusion.setNearness(5);
        Runs.processAt(fusion, 12, 900, 0);
        edges.due("three hits together, but its own misses", accounts(fusion), "c 3 3 nhxxxg, m 1 2 nxxm, t 2 0 nh");
        edges.due("its own time, position, velocity", Runs.state(fusion, 0), "12: 32 16 8 4");
        edges.due("the other one's too", Runs.state(fusion, 1), "2: 48 48 0 0");
        TrackFusion two = Runs.with(5, 8, 4, 9, 0);
        Runs.processAt(two, 0, 0, 0, 5, 0);
        two.setNearness(5);
        Runs.processAt(two, 0, 5, 0);
        edges.due("with two hits and one", accounts(two), "c 3 1 nxg, m 2 0 nhm");
    }

    @Sentence(of = "Terms: Histories", says = "'n' when it is begun")
    static void termsSignBegun(Edges edges) {
        TrackFusion fusion = new TrackFusion();
        Runs.processAt(fusion, 0, 0, 0, 300, 0);
        edges.due("of each", Runs.history(fusion, 0) + " " + Runs.history(fusion, 1), "n n");
        edges.due("of both", fusion.countOf('n'), 2);
    }

    @Sentence(of = "Terms: Histories", says = "'h' when it is changed by a report")
    static void termsSignHit(Edges edges) {
        TrackFusion fusion = new TrackFusion();
        Runs.processAt(fusion, 0, 0, 0);
        Runs.processAt(fusion, 0, 0, 0);
        edges.due("at its place and time", Runs.history(fusion, 0), "nh");
        Runs.processAt(fusion, 1, 20, 0);
        edges.due("at the edge of its gate", Runs.history(fusion, 0), "nhh");
    }

    @Sentence(of = "Terms: Histories", says = "'x' when its misses increase")
    static void termsSignMiss(Edges edges) {
        TrackFusion fusion = Runs.with(1, 8, 4, 9, 0);
        Runs.processAt(fusion, 0, 0, 0);
        for (int misses = 1; misses < 9; misses++) {
            Runs.processAt(fusion, 0, 500, 0);
            edges.due("misses", fusion.misses(0), misses);
            edges.due("countOf('x')", fusion.countOf('x'), misses);
        }
        edges.due("its history", Runs.history(fusion, 0), "nxxxxxxxx");
    }

    @Sentence(of = "Terms: Histories", says = "'l' when it is lost, behind the 'x'")
    static void termsSignLost(Edges edges) {
        TrackFusion one = Runs.with(1, 8, 4, 1, 0);
        Runs.processAt(one, 0, 0, 0);
        Runs.processAt(one, 0, 500, 0);
        edges.due("with the first miss", Runs.history(one, 0), "nxl");
        TrackFusion nine = Runs.with(1, 8, 4, 9, 0);
        Runs.processAt(nine, 0, 0, 0);
        for (int i = 0; i < 12; i++) {
            Runs.processAt(nine, 0, 500, 0);
        }
        edges.due("with the ninth miss, and nothing later", Runs.history(nine, 0), "nxxxxxxxxxl");
    }

    @Sentence(of = "Terms: Histories", says = "'m' when it is merged into another one")
    static void termsSignMerged(Edges edges) {
        TrackFusion fusion = new TrackFusion();
        Runs.processAt(fusion, 0, 0, 0, 1, 0);
        for (int i = 0; i < 4; i++) {
            Runs.processAt(fusion, 0, 500, 0);
        }
        edges.due("as it is begun, and nothing later", Runs.history(fusion, 1), "nm");
        edges.due("countOf('m')", fusion.countOf('m'), 1);
        TrackFusion later = Runs.with(1, 8, 4, 9, 0);
        Runs.processAt(later, 0, 0, 0, 5, 0);
        Runs.processAt(later, 0, 5, 0);
        later.setNearness(5);
        Runs.processAt(later, 0, 500, 0);
        edges.due("behind a hit and a miss", Runs.history(later, 1), "nhxm");
    }

    @Sentence(of = "Terms: Histories", says = "and 'g' when another one is merged into it")
    static void termsSignGained(Edges edges) {
        TrackFusion fusion = new TrackFusion();
        Runs.processAt(fusion, 0, 0, 0, 1, 0, 2, 0, 0, 2);
        edges.due("one for each", Runs.history(fusion, 0), "nggg");
        Runs.processAt(fusion, 0, 0, 0, 1, 1);
        edges.due("behind the hit of the same processing", Runs.history(fusion, 0), "nggghg");
    }
}
