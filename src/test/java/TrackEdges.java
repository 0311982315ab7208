import java.util.NoSuchElementException;

/** The edges of the calls that ask for tracks: promises 18 to 31, and what the terms say of tracks. */
final class TrackEdges {
    private static final Class<IndexOutOfBoundsException> NO_INDEX = IndexOutOfBoundsException.class;
    private static final Class<IllegalArgumentException> WRONG = IllegalArgumentException.class;
    private static final Class<NoSuchElementException> NONE = NoSuchElementException.class;
    private static final int LEAST = Integer.MIN_VALUE;
    private static final int GREATEST = Integer.MAX_VALUE;

    private TrackEdges() {
    }

    @Sentence(of = "Terms: Tracks", says = "At most 60 tracks are begun in all")
    static void termsSixty(Edges edges) {
        TrackFusion fusion = Runs.sixtyBegun();
        edges.due("tracks()", fusion.tracks(), 60);
        edges.due("dropped()", fusion.dropped(), 0);
        edges.due("the last one", Runs.state(fusion, 59), "14: 14400 9600 0 0");
        Runs.processAt(fusion, 15, 0, 0);
        edges.due("tracks() after one more", fusion.tracks(), 60);
        edges.due("dropped() after one more", fusion.dropped(), 1);
        edges.dueThrow("status(60)", NO_INDEX, () -> fusion.status(60));
        edges.due("liveTracks()", fusion.liveTracks(), 0);
        edges.due("isBalanced()", fusion.isBalanced(), true);
    }

    @Sentence(of = "Terms: Tracks", says = "numbered from 0 in the order in which they were begun")
    static void termsNumbers(Edges edges) {
        TrackFusion fusion = Runs.with(1, 8, 4, 1, 0);
        for (int track = 0; track < 10; track++) {
            Runs.processAt(fusion, 100 - track, 50 * track, 0);
        }
        for (int track = 0; track < 10; track++) {
            edges.due("track " + track, Runs.state(fusion, track), (100 - track) + ": " + 800 * track + " 0 0 0");
        }
        edges.dueThrow("track 10", NO_INDEX, () -> fusion.timeOf(10));
        edges.dueThrow("track -1", NO_INDEX, () -> fusion.timeOf(-1));
    }

    @Sentence(of = "Terms: Tracks", says = "at most 6 of them are live at a time")
    static void termsSixLive(Edges edges) {
        TrackFusion fusion = Runs.with(1, 8, 4, 9, 0);
        Runs.processAt(fusion, 0, 0, 0, 100, 0, 200, 0, 300, 0);
        Runs.processAt(fusion, 0, 400, 0);
        edges.due("five", fusion.liveTracks(), 5);
        Runs.processAt(fusion, 0, 500, 0);
        edges.due("six", fusion.liveTracks(), 6);
        Runs.processAt(fusion, 0, 600, 0, 700, 0, 800, 0, 900, 0);
        edges.due("no more", fusion.liveTracks(), 6);
        edges.due("tracks()", fusion.tracks(), 6);
        edges.due("dropped()", fusion.dropped(), 4);
    }

    @Sentence(of = "Terms: Tracks", says = "A coordinate of its predicted position at a time is that of its position plus "
        + "that of its velocity times (this time minus the time of the track)")
    static void termsPredicted(Edges edges) {
        TrackFusion fusion = Runs.with(500, 16, 16, 9, 0);
        Runs.processAt(fusion, 0, 0, 0);
        Runs.processAt(fusion, 1, 16, -32);
        edges.due("the track", Runs.state(fusion, 0), "1: 256 -512 256 -512");
        for (int time : new int[] {-9999, -1, 0, 1, 2, 3, 39999}) {
            edges.due("first at " + time, fusion.predicted(0, time, false), 16 * time);
            edges.due("second at " + time, fusion.predicted(0, time, true), -32 * time);
        }
        TrackFusion still = new TrackFusion();
        Runs.processAt(still, 50, 7, -7);
        for (int time : new int[] {-9999, 49, 50, 51, 39999}) {
            edges.due("first of a still one at " + time, still.predicted(0, time, false), 7);
            edges.due("second of a still one at " + time, still.predicted(0, time, true), -7);
        }
    }

    @Sentence(of = "Terms: Tracks", says = "A live track is tentative while it has fewer than 3 hits, and confirmed otherwise")
    static void termsConfirmed(Edges edges) {
        TrackFusion fusion = new TrackFusion();
        for (int hits = 1; hits <= 5; hits++) {
            Runs.processAt(fusion, hits, 0, 0);
            edges.due("status with " + hits, fusion.status(0), hits < 3 ? 't' : 'c');
        }
        TrackFusion merging = new TrackFusion();
        Runs.processAt(merging, 0, 0, 0, 1, 0);
        edges.due("with two by merging", merging.status(0), 't');
        TrackFusion three = new TrackFusion();
        Runs.processAt(three, 0, 0, 0, 1, 0, 0, 1);
        edges.due("with three by merging", three.status(0), 'c');
    }

    private static String whole(TrackFusion fusion, int track) {
        return Runs.account(fusion, track) + ", " + Runs.state(fusion, track) + ", " + fusion.quality(track)
            + fusion.predicted(track, 39999, true);
    }

    @Sentence(of = "Terms: Tracks", says = "A track that is not live is lost or merged, and does not change any more")
    static void termsNoMoreChange(Edges edges) {
        TrackFusion fusion = Scene.BUSY.make();
        fusion.clearBatch();
        String merged = whole(fusion, 2);
        String lost = whole(fusion, 3);
        edges.due("statuses", fusion.status(2) + " " + fusion.status(3), "m l");
        for (int i = 0; i < 5; i++) {
            Runs.processAt(fusion, 5 + i, 301, 0, -500, -500, 0, 900);
            fusion.setNearness(100 - i);
            fusion.setLimit(1 + i);
        }
        edges.due("the merged one", whole(fusion, 2), merged);
        edges.due("the lost one", whole(fusion, 3), lost);
        edges.due("mergedInto(2)", fusion.mergedInto(2), 1);
        edges.dueThrow("mergedInto(3)", NONE, () -> fusion.mergedInto(3));
    }

    @Sentence(of = "Promise 18", says = "Returns the number of tracks that have been begun")
    static void promise18Tracks(Edges edges) {
        edges.due("when new", new TrackFusion().tracks(), 0);
        TrackFusion waiting = new TrackFusion();
        waiting.report(0, 0, 0, 0);
        edges.due("with a batch", waiting.tracks(), 0);
        waiting.process();
        edges.due("with one", waiting.tracks(), 1);
        edges.due("with lost and merged ones", Scene.BUSY.make().tracks(), 5);
        edges.due("with dropped ones", Scene.FULL.make().tracks(), 6);
        edges.due("with all", Scene.SIXTY.make().tracks(), 60);
    }

    @Sentence(of = "Promise 19", says = "Returns the number of tracks that are live")
    static void promise19LiveTracks(Edges edges) {
        edges.due("when new", new TrackFusion().liveTracks(), 0);
        edges.due("with lost and merged ones", Scene.BUSY.make().liveTracks(), 3);
        edges.due("with six", Scene.FULL.make().liveTracks(), 6);
        edges.due("with sixty begun", Runs.sixtyBegun().liveTracks(), 4);
        TrackFusion sixty = Scene.SIXTY.make();
        edges.due("with sixty begun, later", sixty.liveTracks(), 1);
        sixty.clearBatch();
        Runs.processAt(sixty, 30, 1, 1);
        edges.due("with all lost", sixty.liveTracks(), 0);
    }

    @Sentence(of = "Promise 20",
        says = "Returns 't' if it is tentative, 'c' if it is confirmed, 'l' if it is lost, 'm' if it is merged")
    static void promise20Status(Edges edges) {
        TrackFusion busy = Scene.BUSY.make();
        edges.due("with three hits", busy.status(0), 'c');
        edges.due("with three hits by merging", busy.status(1), 'c');
        edges.due("merged", busy.status(2), 'm');
        edges.due("lost", busy.status(3), 'l');
        edges.due("with one hit", busy.status(4), 't');
        TrackFusion fusion = Runs.with(20, 8, 4, 1, 2);
        Runs.processAt(fusion, 0, 0, 0);
        Runs.processAt(fusion, 0, 0, 0);
        edges.due("with two hits", fusion.status(0), 't');
        Runs.processAt(fusion, 0, 0, 0);
        Runs.processAt(fusion, 0, 900, 0);
        edges.due("lost with three hits", fusion.status(0), 'l');
        TrackFusion merging = Runs.with(5, 8, 4, 9, 0);
        Runs.processAt(merging, 0, 0, 0, 5, 0);
        Runs.processAt(merging, 0, 5, 0);
        Runs.processAt(merging, 0, 5, 0);
        merging.setNearness(5);
        Runs.processAt(merging, 0, 900, 0);
        edges.due("merged with three hits", merging.status(1), 'm');
    }

    private interface OnTrack {
        Object on(TrackFusion fusion, int track);
    }

    /** Each kind of scene has a number of begun tracks, so that the next number is just out of range. */
    private static void noSuchTrack(Edges edges, String name, OnTrack call) {
        for (int track : new int[] {-1, 60, 61, LEAST, GREATEST}) {
            edges.refused(name + " of " + track, NO_INDEX, fusion -> call.on(fusion, track));
        }
        edges.refused(name + " of 0", NO_INDEX, fusion -> call.on(fusion, 0), Scene.NEW);
        edges.refused(name + " of 5", NO_INDEX, fusion -> call.on(fusion, 5), Scene.BUSY, Scene.NEW);
        edges.refused(name + " of 6", NO_INDEX, fusion -> call.on(fusion, 6), Scene.FULL, Scene.BUSY, Scene.NEW);
        edges.refused(name + " of 59", NO_INDEX, fusion -> call.on(fusion, 59), Scene.FULL, Scene.BUSY, Scene.NEW);
        Scene[] scenes = {Scene.BUSY, Scene.BUSY, Scene.FULL, Scene.SIXTY, Scene.SIXTY};
        int[] there = {0, 4, 5, 0, 59};
        for (int i = 0; i < there.length; i++) {
            TrackFusion fusion = scenes[i].make();
            int track = there[i];
            String answer = Checks.answerOf(() -> call.on(fusion, track)).toString();
            edges.due(scenes[i] + ": " + name + " of " + track + " is out of bounds", answer.contains("OutOfBounds"),
                false);
        }
    }

    @Sentence(of = "Promise 20", says = "Throws `IndexOutOfBoundsException` if there is no such track")
    static void promise20NoSuchTrack(Edges edges) {
        noSuchTrack(edges, "status", TrackFusion::status);
    }

    @Sentence(of = "Promise 21", says = "Returns the time of a track, live or not")
    static void promise21TimeOf(Edges edges) {
        TrackFusion busy = Scene.BUSY.make();
        edges.due("of a live one", busy.timeOf(0), 4);
        edges.due("of a live one with misses", busy.timeOf(1), 2);
        edges.due("of a merged one", busy.timeOf(2), 0);
        edges.due("of a lost one", busy.timeOf(3), 0);
        TrackFusion fusion = new TrackFusion();
        Runs.addPairs(fusion, 1, 9998, 0, 9999, 2);
        Runs.addPairs(fusion, 2, 0, 9997, 1, 9999);
        fusion.report(1, 0, 0, 0);
        fusion.report(2, 9999, 100, 0);
        fusion.report(0, 0, 200, 0);
        fusion.process();
        edges.due("the least", fusion.timeOf(0), -19996);
        edges.due("the greatest", fusion.timeOf(1), 29995);
        edges.due("nothing", fusion.timeOf(2), 0);
    }

    @Sentence(of = "Promise 21", says = "Throws `IndexOutOfBoundsException` if there is no such track")
    static void promise21NoSuchTrack(Edges edges) {
        noSuchTrack(edges, "timeOf", TrackFusion::timeOf);
    }

    @Sentence(of = "Promise 22", says = "Returns a number of the position or the velocity of a track, live or not")
    static void promise22LiveOrNot(Edges edges) {
        TrackFusion fusion = Runs.moving(0);
        edges.due("live", Runs.state(fusion, 0), "12: 32 16 8 4");
        fusion.setLimit(1);
        Runs.processAt(fusion, 99, 900, 900);
        edges.due("lost", fusion.status(0) + " " + Runs.state(fusion, 0), "l 12: 32 16 8 4");
        TrackFusion merging = Runs.with(20, 8, 4, 9, 0);
        Runs.processAt(merging, 10, 0, 0, 60, 0);
        Runs.processAt(merging, 12, 4, 2, 64, 2);
        merging.setNearness(60);
        merging.setGate(1);
        Runs.processAt(merging, 30, 900, 900);
        edges.due("merged", merging.status(1) + " " + Runs.state(merging, 1), "m 12: 992 16 8 4");
    }

    @Sentence(of = "Promise 22", says = "0 for the first and 1 for the second coordinate of the position, 2 and 3 for those "
        + "of the velocity")
    static void promise22Parts(Edges edges) {
        TrackFusion fusion = Runs.with(20, 8, 4, 9, 0);
        Runs.processAt(fusion, 10, 0, 0);
        Runs.processAt(fusion, 12, 4, -2);
        edges.due("stateOf(0, 0)", fusion.stateOf(0, 0), 32);
        edges.due("stateOf(0, 1)", fusion.stateOf(0, 1), -16);
        edges.due("stateOf(0, 2)", fusion.stateOf(0, 2), 8);
        edges.due("stateOf(0, 3)", fusion.stateOf(0, 3), -4);
        edges.dueThrow("stateOf(0, -1)", WRONG, () -> fusion.stateOf(0, -1));
        edges.dueThrow("stateOf(0, 4)", WRONG, () -> fusion.stateOf(0, 4));
    }

    @Sentence(of = "Promise 22", says = "Returns the number, in sixteenths")
    static void promise22Sixteenths(Edges edges) {
        TrackFusion corners = new TrackFusion();
        Runs.processAt(corners, 0, -999, 999);
        edges.due("the least place", corners.stateOf(0, 0), -15984);
        edges.due("the greatest place", corners.stateOf(0, 1), 15984);
        TrackFusion swift = Runs.with(500, 16, 16, 9, 0);
        Runs.processAt(swift, 0, 0, 0);
        Runs.processAt(swift, 1, -300, 300);
        edges.due("the least velocity", swift.stateOf(0, 2), -1600);
        edges.due("the greatest velocity", swift.stateOf(0, 3), 1600);
        TrackFusion parts = Runs.atSixteenths(1, -1);
        edges.due("one sixteenth", parts.stateOf(0, 0), 1);
        edges.due("minus one sixteenth", parts.stateOf(0, 1), -1);
    }

    @Sentence(of = "Promise 22", says = "Throws `IndexOutOfBoundsException` if there is no such track")
    static void promise22NoSuchTrack(Edges edges) {
        for (int part = 0; part < 4; part++) {
            int asked = part;
            noSuchTrack(edges, "stateOf, part " + asked + ",", (fusion, track) -> fusion.stateOf(track, asked));
        }
    }

    @Sentence(of = "Promise 22", says = "Throws `IllegalArgumentException` if there is no such part")
    static void promise22NoSuchPart(Edges edges) {
        for (int part : new int[] {-1, 4, 5, LEAST, GREATEST}) {
            edges.refused("stateOf(0, " + part + ")", WRONG, fusion -> fusion.stateOf(0, part), Scene.BUSY, Scene.FULL,
                Scene.SIXTY);
            edges.refused("stateOf of a merged one, part " + part, WRONG, fusion -> fusion.stateOf(2, part), Scene.BUSY);
            edges.refused("stateOf of the last one, part " + part, WRONG, fusion -> fusion.stateOf(59, part),
                Scene.SIXTY);
        }
    }

    @Sentence(of = "Promise 23", says = "Returns a coordinate of the predicted position of a track, live or not")
    static void promise23LiveOrNot(Edges edges) {
        TrackFusion fusion = Runs.moving(0);
        edges.due("live", fusion.predicted(0, 28, false) + " " + fusion.predicted(0, 28, true), "10 5");
        fusion.setLimit(1);
        Runs.processAt(fusion, 99, 900, 900);
        edges.due("lost", fusion.status(0) + " " + fusion.predicted(0, 28, false) + " " + fusion.predicted(0, 28, true),
            "l 10 5");
        TrackFusion busy = Scene.BUSY.make();
        edges.due("merged", busy.status(2) + " " + busy.predicted(2, -9999, false) + " " + busy.predicted(2, 39999, true),
            "m 301 0");
    }

    @Sentence(of = "Promise 23", says = "`time`: the time, -9999 to 39999")
    static void promise23Time(Edges edges) {
        TrackFusion fusion = Runs.with(500, 16, 16, 9, 0);
        Runs.processAt(fusion, 0, 0, 0);
        Runs.processAt(fusion, 1, 300, -400);
        edges.due("a swift one", Runs.state(fusion, 0), "1: 4800 -6400 1600 -1600");
        edges.due("first at 39999", fusion.predicted(0, 39999, false), 4000100);
        edges.due("second at 39999", fusion.predicted(0, 39999, true), -4000200);
        edges.due("first at -9999", fusion.predicted(0, -9999, false), -999700);
        edges.due("second at -9999", fusion.predicted(0, -9999, true), 999600);
        for (boolean isSecond : new boolean[] {false, true}) {
            edges.dueThrow("at 40000", WRONG, () -> fusion.predicted(0, 40000, isSecond));
            edges.dueThrow("at -10000", WRONG, () -> fusion.predicted(0, -10000, isSecond));
        }
    }

    @Sentence(of = "Promise 23", says = "`isSecond`: whether it is the second coordinate; otherwise, it is the first one")
    static void promise23Second(Edges edges) {
        TrackFusion fusion = new TrackFusion();
        Runs.processAt(fusion, 0, -7, 9);
        edges.due("the first one", fusion.predicted(0, 0, false), -7);
        edges.due("the second one", fusion.predicted(0, 0, true), 9);
    }

    @Sentence(of = "Promise 23", says = "the sixteenths divided by 16, rounded down, also if they are negative")
    static void promise23RoundedDown(Edges edges) {
        int[][] rows = {{0, 0}, {1, 0}, {15, 0}, {16, 1}, {17, 1}, {31, 1}, {32, 2}, {-1, -1}, {-15, -1}, {-16, -1},
            {-17, -2}, {-31, -2}, {-32, -2}, {-33, -3}};
        for (int[] row : rows) {
            TrackFusion fusion = Runs.atSixteenths(row[0], -row[0]);
            edges.due("the first at " + row[0], fusion.predicted(0, 0, false), row[1]);
            TrackFusion second = Runs.atSixteenths(-row[0], row[0]);
            edges.due("the second at " + row[0], second.predicted(0, 0, true), row[1]);
        }
        TrackFusion moving = Runs.moving(0);
        edges.due("by velocity", moving.predicted(0, 13, false) + " " + moving.predicted(0, 13, true), "2 1");
        edges.due("by velocity", moving.predicted(0, 7, false) + " " + moving.predicted(0, 7, true), "-1 -1");
        edges.due("by velocity", moving.predicted(0, 8, false) + " " + moving.predicted(0, 8, true), "0 0");
    }

    @Sentence(of = "Promise 23", says = "Throws `IndexOutOfBoundsException` if there is no such track")
    static void promise23NoSuchTrack(Edges edges) {
        noSuchTrack(edges, "predicted, first,", (fusion, track) -> fusion.predicted(track, 0, false));
        noSuchTrack(edges, "predicted, second,", (fusion, track) -> fusion.predicted(track, 39999, true));
    }

    @Sentence(of = "Promise 23", says = "Throws `IllegalArgumentException` if the time is out of range")
    static void promise23OutOfRange(Edges edges) {
        for (int time : new int[] {-10000, 40000, LEAST, GREATEST}) {
            for (boolean isSecond : new boolean[] {false, true}) {
                edges.refused("predicted(0, " + time + ", " + isSecond + ")", WRONG,
                    fusion -> fusion.predicted(0, time, isSecond), Scene.BUSY, Scene.FULL, Scene.SIXTY);
                edges.refused("predicted of a lost one at " + time, WRONG,
                    fusion -> fusion.predicted(3, time, isSecond), Scene.BUSY, Scene.SIXTY);
            }
        }
    }

    @Sentence(of = "Promise 24", says = "Returns the number of hits")
    static void promise24Hits(Edges edges) {
        TrackFusion busy = Scene.BUSY.make();
        edges.due("of a confirmed one", busy.hits(0), 3);
        edges.due("of one that took another one in", busy.hits(1), 3);
        edges.due("of a merged one", busy.hits(2), 1);
        edges.due("of a lost one", busy.hits(3), 1);
        edges.due("of a new one", busy.hits(4), 1);
        TrackFusion fusion = new TrackFusion();
        for (int hits = 1; hits <= 200; hits++) {
            Runs.processAt(fusion, hits, 0, 0);
        }
        edges.due("of an old one", fusion.hits(0), 200);
    }

    @Sentence(of = "Promise 24", says = "Throws `IndexOutOfBoundsException` if there is no such track")
    static void promise24NoSuchTrack(Edges edges) {
        noSuchTrack(edges, "hits", TrackFusion::hits);
    }

    @Sentence(of = "Promise 25", says = "Returns the number of misses")
    static void promise25Misses(Edges edges) {
        TrackFusion busy = Scene.BUSY.make();
        edges.due("after a hit", busy.misses(0), 0);
        edges.due("after a miss", busy.misses(1), 1);
        edges.due("of a merged one", busy.misses(2), 0);
        edges.due("of a lost one", busy.misses(3), 2);
        edges.due("of a new one", busy.misses(4), 0);
        TrackFusion fusion = Runs.with(1, 8, 4, 9, 0);
        Runs.processAt(fusion, 0, 0, 0);
        for (int i = 0; i < 20; i++) {
            Runs.processAt(fusion, 0, 500, 500);
        }
        edges.due("of one that was lost long ago", fusion.misses(0), 9);
    }

    @Sentence(of = "Promise 25", says = "Throws `IndexOutOfBoundsException` if there is no such track")
    static void promise25NoSuchTrack(Edges edges) {
        noSuchTrack(edges, "misses", TrackFusion::misses);
    }

    @Sentence(of = "Promise 26", says = "Returns the track into which a track was merged")
    static void promise26MergedInto(Edges edges) {
        TrackFusion fusion = Runs.with(1, 8, 4, 9, 2);
        Runs.processAt(fusion, 0, 0, 0);
        Runs.processAt(fusion, 0, 4, 0, 6, 0);
        edges.due("mergedInto(2)", fusion.mergedInto(2), 1);
        fusion.setNearness(4);
        Runs.processAt(fusion, 0, 900, 0);
        edges.due("mergedInto(1), merged later", fusion.mergedInto(1), 0);
        edges.due("mergedInto(2) still", fusion.mergedInto(2), 1);
        TrackFusion sixty = Runs.with(1, 8, 4, 1, 0);
        for (int i = 0; i < 14; i++) {
            int y = i % 2 == 0 ? 600 : -600;
            Runs.processAt(sixty, i, -900, y, -300, y, 300, y, 900, y);
        }
        Runs.processAt(sixty, 14, -900, 600, -300, 600, 300, 600, 300, 600);
        edges.due("mergedInto(59)", sixty.mergedInto(59), 58);
    }

    @Sentence(of = "Promise 26", says = "Throws `IndexOutOfBoundsException` if there is no such track")
    static void promise26NoSuchTrack(Edges edges) {
        noSuchTrack(edges, "mergedInto", TrackFusion::mergedInto);
    }

    @Sentence(of = "Promise 26", says = "Throws `NoSuchElementException` if it is not merged")
    static void promise26NotMerged(Edges edges) {
        edges.refused("mergedInto of a confirmed one", NONE, fusion -> fusion.mergedInto(0), Scene.BUSY);
        edges.refused("mergedInto of one that took another one in", NONE, fusion -> fusion.mergedInto(1), Scene.BUSY);
        edges.refused("mergedInto of a lost one", NONE, fusion -> fusion.mergedInto(3), Scene.BUSY, Scene.SIXTY);
        edges.refused("mergedInto of a tentative one", NONE, fusion -> fusion.mergedInto(4), Scene.BUSY, Scene.FULL);
        edges.refused("mergedInto of the last one", NONE, fusion -> fusion.mergedInto(59), Scene.SIXTY);
        edges.due("mergedInto of a merged one", Scene.BUSY.make().mergedInto(2), 1);
    }

    /** A track in which all other 59 are merged, and which is hit 220 times; it takes 505 of the 512 calls. */
    private static TrackFusion longestHistory() {
        TrackFusion fusion = new TrackFusion();
        for (int i = 0; i < 21; i++) {
            Runs.processAt(fusion, 0, 0, 0, 0, 0, 0, 0, 0, 0);
        }
        for (int i = 0; i < 200; i++) {
            Runs.processAt(fusion, 0, 0, 0);
        }
        return fusion;
    }

    @Sentence(of = "Promise 27", says = "Returns the length of the history of a track")
    static void promise27Length(Edges edges) {
        TrackFusion busy = Scene.BUSY.make();
        edges.due("nhh", busy.historyLength(0), 3);
        edges.due("nghx", busy.historyLength(1), 4);
        edges.due("nm", busy.historyLength(2), 2);
        edges.due("nxxl", busy.historyLength(3), 4);
        edges.due("n", busy.historyLength(4), 1);
        TrackFusion longest = longestHistory();
        edges.due("tracks()", longest.tracks(), 60);
        edges.due("n, 59 times g, 220 times h", longest.historyLength(0), 280);
    }

    @Sentence(of = "Promise 27", says = "Throws `IndexOutOfBoundsException` if there is no such track")
    static void promise27NoSuchTrack(Edges edges) {
        noSuchTrack(edges, "historyLength", TrackFusion::historyLength);
    }

    @Sentence(of = "Promise 28", says = "`index`: the index of the sign, 0 for the first one")
    static void promise28Index(Edges edges) {
        TrackFusion busy = Scene.BUSY.make();
        edges.due("history of 1", "" + busy.historyAt(1, 0) + busy.historyAt(1, 1) + busy.historyAt(1, 2)
            + busy.historyAt(1, 3), "nghx");
        edges.due("the only one", busy.historyAt(4, 0), 'n');
        TrackFusion longest = longestHistory();
        edges.due("the first one", longest.historyAt(0, 0), 'n');
        edges.due("the fourth one", longest.historyAt(0, 3), 'g');
        edges.due("the fifth one", longest.historyAt(0, 4), 'h');
        edges.due("the last one", longest.historyAt(0, 279), 'h');
        edges.dueThrow("one more", NONE, () -> longest.historyAt(0, 280));
    }

    @Sentence(of = "Promise 28", says = "Throws `IndexOutOfBoundsException` if there is no such track")
    static void promise28NoSuchTrack(Edges edges) {
        noSuchTrack(edges, "historyAt, index 0,", (fusion, track) -> fusion.historyAt(track, 0));
    }

    @Sentence(of = "Promise 28", says = "Throws `NoSuchElementException` if there is no such sign")
    static void promise28NoSuchSign(Edges edges) {
        for (int index : new int[] {-1, 511, 512, 513, LEAST, GREATEST}) {
            edges.refused("historyAt(0, " + index + ")", NONE, fusion -> fusion.historyAt(0, index), Scene.BUSY,
                Scene.FULL, Scene.SIXTY);
        }
        edges.refused("historyAt, behind nhh,", NONE, fusion -> fusion.historyAt(0, 3), Scene.BUSY);
        edges.refused("historyAt, behind nghx,", NONE, fusion -> fusion.historyAt(1, 4), Scene.BUSY);
        edges.refused("historyAt, behind nm,", NONE, fusion -> fusion.historyAt(2, 2), Scene.BUSY);
        edges.refused("historyAt, behind nxxl,", NONE, fusion -> fusion.historyAt(3, 4), Scene.BUSY);
        edges.refused("historyAt, behind n,", NONE, fusion -> fusion.historyAt(4, 1), Scene.BUSY);
        TrackFusion busy = Scene.BUSY.make();
        edges.due("the last signs", "" + busy.historyAt(0, 2) + busy.historyAt(1, 3) + busy.historyAt(2, 1)
            + busy.historyAt(3, 3) + busy.historyAt(4, 0), "hxmln");
    }

    /** A track with this history, which begins with 'n' and holds 'h' and 'x' else. */
    private static TrackFusion withHistory(String signs) {
        TrackFusion fusion = Runs.with(1, 8, 4, 9, 0);
        Runs.processAt(fusion, 0, 0, 0);
        for (char sign : signs.substring(1).toCharArray()) {
            Runs.processAt(fusion, 0, sign == 'h' ? 0 : 500, 0);
        }
        return fusion;
    }

    @Sentence(of = "Promise 29", says = "Returns how many of the last 8 signs of its history, or of all if there are fewer, "
        + "are 'h' or 'n'")
    static void promise29Quality(Edges edges) {
        String[] histories = {"n", "nh", "nx", "nhhhhhh", "nhhhhhhh", "nhhhhhhhh", "nxhhhhhhh", "nhxhhhhhh", "nxxxxxxx",
            "nxxxxxxxx", "hxxxxxxxx", "nhxxxxxxxh", "nxhxhxhx", "nxhxhxhxh", "nhhxxxxxxx"};
        int[] qualities = {1, 2, 1, 7, 8, 8, 7, 7, 1, 0, 0, 1, 4, 4, 1};
        for (int i = 0; i < histories.length; i++) {
            TrackFusion fusion = withHistory(histories[i]);
            edges.due("quality of " + histories[i], fusion.quality(0), qualities[i]);
        }
        TrackFusion busy = Scene.BUSY.make();
        edges.due("of nghx", busy.quality(1), 2);
        edges.due("of nm", busy.quality(2), 1);
        edges.due("of nxxl", busy.quality(3), 1);
        edges.due("of the longest history", longestHistory().quality(0), 8);
    }

    @Sentence(of = "Promise 29", says = "Throws `IndexOutOfBoundsException` if there is no such track")
    static void promise29NoSuchTrack(Edges edges) {
        noSuchTrack(edges, "quality", TrackFusion::quality);
    }

    @Sentence(of = "Promise 30", says = "Returns the number of signs of a kind in the histories of all tracks")
    static void promise30Count(Edges edges) {
        String signs = "nhxlmg";
        TrackFusion none = new TrackFusion();
        TrackFusion busy = Scene.BUSY.make();
        TrackFusion longest = longestHistory();
        int[] ofBusy = {5, 3, 3, 1, 1, 1};
        int[] ofLongest = {60, 220, 0, 0, 59, 59};
        for (int i = 0; i < signs.length(); i++) {
            char sign = signs.charAt(i);
            edges.due("countOf('" + sign + "') without tracks", none.countOf(sign), 0);
            edges.due("countOf('" + sign + "') of each status", busy.countOf(sign), ofBusy[i]);
            edges.due("countOf('" + sign + "') of the longest", longest.countOf(sign), ofLongest[i]);
        }
        TrackFusion sixty = Runs.sixtyBegun();
        edges.due("countOf('n') of sixty", sixty.countOf('n'), 60);
        edges.due("countOf('l') of sixty", sixty.countOf('l'), 56);
    }

    @Sentence(of = "Promise 30", says = "Throws `IllegalArgumentException` if there is no such kind of signs")
    static void promise30NoSuchSign(Edges edges) {
        for (char sign = 0; sign < 128; sign++) {
            char asked = sign;
            if ("nhxlmg".indexOf(asked) >= 0) {
                edges.due("countOf of " + (int) asked, new TrackFusion().countOf(asked), 0);
            } else {
                edges.dueThrow("countOf of " + (int) asked, WRONG, () -> new TrackFusion().countOf(asked));
            }
        }
        for (char sign : new char[] {'t', 'c', 'N', 0, 256 + 'n', 65535}) {
            edges.refused("countOf of " + (int) sign, WRONG, fusion -> fusion.countOf(sign));
        }
    }

    @Sentence(of = "Promise 31", says = "Returns the live track whose predicted position at a time is nearest to a place, by "
        + "the sum of the squares of the differences in sixteenths")
    static void promise31Nearest(Edges edges) {
        TrackFusion fusion = Runs.atSixteenths(1, 0);
        Runs.processAt(fusion, 0, 10, 0);
        edges.due("nearer by a sixteenth or two", fusion.nearest(0, 5, 0), 0);
        TrackFusion other = Runs.atSixteenths(-1, 0);
        Runs.processAt(other, 0, 10, 0);
        edges.due("further by a sixteenth or two", other.nearest(0, 5, 0), 1);
        TrackFusion moving = Runs.moving(0);
        moving.setGate(1);
        Runs.processAt(moving, 12, 20, 10);
        edges.due("at its time", moving.nearest(12, 10, 5), 0);
        edges.due("later", moving.nearest(52, 22, 11), 0);
        edges.due("later", moving.nearest(53, 21, 10), 1);
        edges.due("earlier", moving.nearest(-100, -54, -27), 0);
        edges.due("far ahead", moving.nearest(39999, 0, 0), 1);
        TrackFusion lost = Runs.with(1, 8, 4, 1, 2);
        Runs.processAt(lost, 0, 0, 0, 500, 0, 501, 0);
        Runs.processAt(lost, 0, 500, 0);
        edges.due("a lost and a merged one do not count", lost.nearest(0, 1, 0), 1);
    }

    @Sentence(of = "Promise 31", says = "of several, it is the one with the lowest number")
    static void promise31Ties(Edges edges) {
        TrackFusion fusion = Runs.with(1, 8, 4, 9, 0);
        Runs.processAt(fusion, 0, 10, 0, -10, 0, 0, 10, 0, -10);
        edges.due("of four", fusion.nearest(0, 0, 0), 0);
        edges.due("of three", fusion.nearest(0, -1, 0), 1);
        edges.due("of two", fusion.nearest(0, -5, 5), 1);
        edges.due("of two", fusion.nearest(0, 0, -10), 3);
        edges.due("of two", fusion.nearest(0, 5, -5), 0);
        TrackFusion same = Runs.with(1, 8, 4, 9, 0);
        Runs.processAt(same, 5, 3, 3);
        same.addPair(1, 1, 0);
        same.report(1, 0, 3, 4);
        same.process();
        edges.due("at 3, 3", same.nearest(0, 3, 3), 0);
        edges.due("at 3, 4", same.nearest(0, 3, 4), 1);
    }

    @Sentence(of = "Promise 31", says = "`time`: the time, -9999 to 39999")
    static void promise31Time(Edges edges) {
        TrackFusion fusion = Runs.moving(0);
        edges.due("at -9999", fusion.nearest(-9999, 0, 0), 0);
        edges.due("at 39999", fusion.nearest(39999, 0, 0), 0);
        edges.dueThrow("at -10000", WRONG, () -> fusion.nearest(-10000, 0, 0));
        edges.dueThrow("at 40000", WRONG, () -> fusion.nearest(40000, 0, 0));
    }

    @Sentence(of = "Promise 31", says = "`x`: the first coordinate of the place, -999 to 999")
    static void promise31First(Edges edges) {
        TrackFusion fusion = Runs.moving(0);
        edges.due("at -999", fusion.nearest(0, -999, 0), 0);
        edges.due("at 999", fusion.nearest(0, 999, 0), 0);
        edges.dueThrow("at -1000", WRONG, () -> fusion.nearest(0, -1000, 0));
        edges.dueThrow("at 1000", WRONG, () -> fusion.nearest(0, 1000, 0));
    }

    @Sentence(of = "Promise 31", says = "`y`: the second coordinate of the place, -999 to 999")
    static void promise31Second(Edges edges) {
        TrackFusion fusion = Runs.moving(0);
        edges.due("at -999", fusion.nearest(0, 0, -999), 0);
        edges.due("at 999", fusion.nearest(0, 0, 999), 0);
        edges.dueThrow("at -1000", WRONG, () -> fusion.nearest(0, 0, -1000));
        edges.dueThrow("at 1000", WRONG, () -> fusion.nearest(0, 0, 1000));
    }

    @Sentence(of = "Promise 31", says = "Throws `IllegalArgumentException` if the time or a coordinate is out of range")
    static void promise31OutOfRange(Edges edges) {
        for (int time : new int[] {-10000, 40000, LEAST, GREATEST}) {
            edges.refused("nearest(" + time + ", 0, 0)", WRONG, fusion -> fusion.nearest(time, 0, 0));
        }
        for (int place : BatchEdges.NO_PLACES) {
            edges.refused("nearest(0, " + place + ", 0)", WRONG, fusion -> fusion.nearest(0, place, 0));
            edges.refused("nearest(0, 0, " + place + ")", WRONG, fusion -> fusion.nearest(0, 0, place));
        }
    }

    @Sentence(of = "Promise 31", says = "Throws `NoSuchElementException` if no track is live")
    static void promise31NoneLive(Edges edges) {
        edges.refused("nearest without tracks", NONE, fusion -> fusion.nearest(0, 0, 0), Scene.NEW);
        TrackFusion fusion = Scene.SIXTY.make();
        edges.due("with one live track", fusion.nearest(0, 0, 0), 56);
        fusion.clearBatch();
        Runs.processAt(fusion, 99, 0, 0);
        edges.dueThrow("with lost tracks alone", NONE, () -> fusion.nearest(0, 0, 0));
        edges.due("liveTracks() then", fusion.liveTracks(), 0);
        TrackFusion one = new TrackFusion();
        one.report(0, 0, 0, 0);
        edges.dueThrow("with a batch alone", NONE, () -> one.nearest(0, 0, 0));
        one.process();
        edges.due("with a track", one.nearest(0, 0, 0), 0);
    }
}
