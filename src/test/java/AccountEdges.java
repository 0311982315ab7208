/** The edges of the accounts: promises 32 to 35, and of the number of calls of an object. */
final class AccountEdges {
    private static final Class<ArithmeticException> NONE = ArithmeticException.class;

    private AccountEdges() {
    }

    @Sentence(of = "What it is", says = "An object is used for at most 512 calls after it has been made")
    static void whatItIsCalls(Edges edges) {
        TrackFusion fusion = Runs.with(20, 8, 4, 3, 2);
        int calls = 4;
        while (calls < 504) {
            fusion.report(0, calls, 5, 5);
            fusion.process();
            calls += 2;
        }
        edges.due("call 505", fusion.report(0, 600, 5, 5), 0);
        edges.due("call 506", fusion.process(), 1);
        edges.due("call 507", fusion.historyLength(0), 251);
        edges.due("call 508", fusion.historyAt(0, 250), 'h');
        edges.due("call 509", fusion.countOf('h'), 250);
        edges.due("call 510", fusion.report(0, 600, 900, 5), 0);
        edges.due("call 511", fusion.process(), 0);
        edges.due("call 512", fusion.isBalanced(), true);
    }

    /** Later answers are free, but LANGUAGE.md lets no call throw by itself in any state. */
    @Sentence(of = "What it is", says = "what later calls answer is free")
    static void whatItIsLaterCalls(Edges edges) {
        TrackFusion fusion = Runs.with(1, 8, 4, 9, 2);
        for (int i = 0; i < 3000; i++) {
            int time = i;
            Object answer = Checks.answerOf(() -> Runs.processAt(fusion, time, 0, 0, 900, time % 900, 0, 0, 1, 1));
            edges.due("call " + 5 * (i + 1) + " throws", answer.toString().startsWith("throws"), false);
        }
        edges.due("a look at all tracks throws", Checks.answerOf(() -> fusion.countOf('h') + fusion.quality(0)
            + fusion.historyAt(0, fusion.historyLength(0) - 1)).toString().startsWith("throws"), false);
    }

    @Sentence(of = "Promise 32", says = "Returns the number of reports that were dropped")
    static void promise32Dropped(Edges edges) {
        TrackFusion fusion = Runs.with(1, 8, 4, 9, 0);
        edges.due("when new", fusion.dropped(), 0);
        Runs.processAt(fusion, 0, 0, 0, 100, 0, 200, 0, 300, 0);
        Runs.processAt(fusion, 0, 400, 0, 500, 0, 0, 0);
        edges.due("with six tracks", fusion.dropped(), 0);
        Runs.processAt(fusion, 0, 600, 0);
        edges.due("with a seventh place", fusion.dropped(), 1);
        Runs.processAt(fusion, 0, 600, 0, 700, 0, 800, 0, 900, 0);
        edges.due("with four more", fusion.dropped(), 5);
        Runs.reportAt(fusion, 0, 600, 0);
        edges.due("with one that waits", fusion.dropped(), 5);
        fusion.clearBatch();
        edges.due("with one that was cleared", fusion.dropped(), 5);
        edges.due("with sixty begun", Scene.SIXTY.make().dropped(), 1);
    }

    @Sentence(of = "Promise 33", says = "Returns whether their number is that of the signs 'n' and 'h' in all histories plus "
        + "that of the reports that were dropped")
    static void promise33Balanced(Edges edges) {
        edges.due("when new", new TrackFusion().isBalanced(), true);
        for (Scene scene : Scene.values()) {
            TrackFusion fusion = scene.make();
            edges.due(scene + ": with its batch", fusion.isBalanced(), true);
            Checks.answerOf(fusion::process);
            edges.due(scene + ": after process()", fusion.isBalanced(), true);
            fusion.report(0, 9, 9, 9);
            fusion.clearBatch();
            edges.due(scene + ": after clearBatch()", fusion.isBalanced(), true);
        }
        TrackFusion full = Scene.FULL.make();
        full.process();
        edges.due("the twelve reports of the full scene", full.countOf('n') + full.countOf('h') + full.dropped(), 12);
    }

    @Sentence(of = "Promise 34", says = "Returns the number of signs 'h' in all histories divided by the number of reports "
        + "that were processed, both converted to float")
    static void promise34Share(Edges edges) {
        TrackFusion fusion = new TrackFusion();
        Runs.processAt(fusion, 0, 0, 0);
        edges.due("none of one", fusion.takenShare(), 0f);
        Runs.processAt(fusion, 0, 0, 0);
        edges.due("one of two", fusion.takenShare(), 0.5f);
        Runs.processAt(fusion, 0, 0, 0);
        edges.due("two of three", fusion.takenShare(), 2f / 3f);
        Runs.reportAt(fusion, 0, 0, 0);
        edges.due("with one that waits", fusion.takenShare(), 2f / 3f);
        fusion.clearBatch();
        edges.due("with one that was cleared", fusion.takenShare(), 2f / 3f);
        Runs.processAt(fusion, 0, 0, 0, 300, 0, 600, 0, 900, 0);
        edges.due("three of seven", fusion.takenShare(), 3f / 7f);
        TrackFusion full = Scene.FULL.make();
        edges.due("none of eight, two of them dropped", full.takenShare(), 0f);
        full.process();
        edges.due("three of twelve, three of them dropped", full.takenShare(), 0.25f);
        TrackFusion merged = new TrackFusion();
        Runs.processAt(merged, 0, 0, 0, 5, 0);
        Runs.processAt(merged, 0, 5, 0);
        merged.setNearness(5);
        Runs.processAt(merged, 0, 500, 0);
        edges.due("with the sign of a merged one", merged.status(1) + " " + merged.takenShare(), "m 0.25");
    }

    @Sentence(of = "Promise 34", says = "Throws `ArithmeticException` if none was processed")
    static void promise34NoneProcessed(Edges edges) {
        edges.refused("takenShare() when new", NONE, TrackFusion::takenShare, Scene.NEW);
        TrackFusion fusion = new TrackFusion();
        fusion.report(0, 0, 0, 0);
        edges.dueThrow("takenShare() with one that waits", NONE, fusion::takenShare);
        fusion.clearBatch();
        edges.dueThrow("takenShare() with one that was cleared", NONE, fusion::takenShare);
        edges.dueThrow("process()", IllegalStateException.class, fusion::process);
        edges.dueThrow("takenShare() after a refused process()", NONE, fusion::takenShare);
        Runs.processAt(fusion, 0, 0, 0);
        edges.due("takenShare() with one", fusion.takenShare(), 0f);
    }

    @Sentence(of = "Promise 35", says = "Returns the sum of their hits divided by their number, both converted to double")
    static void promise35Mean(Edges edges) {
        TrackFusion fusion = Runs.with(20, 8, 4, 1, 2);
        Runs.processAt(fusion, 0, 0, 0);
        edges.due("one of one", fusion.meanHits(), 1.0);
        Runs.processAt(fusion, 0, 0, 0, 300, 0, 600, 0);
        edges.due("four of three", fusion.meanHits(), 4.0 / 3.0);
        Runs.processAt(fusion, 0, 0, 0, 300, 0);
        edges.due("without the lost one", fusion.meanHits(), 2.5);
        Runs.processAt(fusion, 0, 0, 0, 300, 0, 301, 0);
        edges.due("without the merged one, but with its hits", fusion.meanHits(), 4.0);
        edges.due("of six", Scene.FULL.make().meanHits(), 1.0);
        TrackFusion full = Scene.FULL.make();
        full.process();
        edges.due("of six, three of them with two", full.meanHits(), 1.5);
    }

    @Sentence(of = "Promise 35", says = "Throws `ArithmeticException` if no track is live")
    static void promise35NoneLive(Edges edges) {
        edges.refused("meanHits() when new", NONE, TrackFusion::meanHits, Scene.NEW);
        TrackFusion waiting = new TrackFusion();
        waiting.report(0, 0, 0, 0);
        edges.dueThrow("meanHits() with one that waits", NONE, waiting::meanHits);
        waiting.process();
        edges.due("meanHits() with one track", waiting.meanHits(), 1.0);
        TrackFusion lost = Scene.SIXTY.make();
        edges.due("meanHits() with one live track", lost.meanHits(), 2.0);
        lost.clearBatch();
        Runs.processAt(lost, 99, 0, 0);
        edges.dueThrow("meanHits() with lost tracks alone", NONE, lost::meanHits);
        edges.due("liveTracks() then", lost.liveTracks(), 0);
    }
}
