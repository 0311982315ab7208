/** Promises 32 to 35: dropped, isBalanced, takenShare, meanHits. */
public final class AccountsTest {
    private static final Checks CHECKS = new Checks();
    private static final Class<ArithmeticException> NONE = ArithmeticException.class;

    public static void main(String[] args) {
        droppedReportsAreCounted();
        reportsAreAccountedFor();
        theShareIsAFloat();
        theMeanIsADouble();
        CHECKS.end("AccountsTest");
    }

    private static void droppedReportsAreCounted() {
        TrackFusion fusion = Runs.with(1, 8, 4, 9, 0);
        CHECKS.due("dropped()", fusion.dropped(), 0);
        Runs.processAt(fusion, 0, 0, 0, 100, 0, 200, 0, 300, 0);
        Runs.processAt(fusion, 0, 400, 0, 500, 0);
        CHECKS.due("dropped()", fusion.dropped(), 0);
        Runs.processAt(fusion, 0, 0, 0, 600, 0, 700, 0, 800, 0);
        CHECKS.due("dropped()", fusion.dropped(), 3);
        Runs.reportAt(fusion, 0, 900, 0);
        CHECKS.due("dropped(), one waits", fusion.dropped(), 3);
        fusion.clearBatch();
        CHECKS.due("dropped(), one is cleared", fusion.dropped(), 3);
        Runs.processAt(fusion, 0, 900, 0);
        CHECKS.due("dropped()", fusion.dropped(), 4);
    }

    private static void reportsAreAccountedFor() {
        TrackFusion fusion = Runs.with(20, 8, 4, 1, 50);
        CHECKS.due("isBalanced() when new", fusion.isBalanced(), true);
        for (int i = 0; i < 20; i++) {
            Runs.reportAt(fusion, i, i, i, 100 * i - 999, 7, 30, 999 - 40 * i);
            CHECKS.due("isBalanced() with a batch", fusion.isBalanced(), true);
            fusion.process();
            CHECKS.due("isBalanced()", fusion.isBalanced(), true);
        }
        Runs.reportAt(fusion, 30, 0, 0);
        fusion.clearBatch();
        CHECKS.due("isBalanced() after a cleared batch", fusion.isBalanced(), true);
    }

    private static void theShareIsAFloat() {
        TrackFusion fusion = new TrackFusion();
        CHECKS.dueThrow("takenShare() when new", NONE, fusion::takenShare);
        Runs.reportAt(fusion, 0, 0, 0);
        CHECKS.dueThrow("takenShare() with a batch", NONE, fusion::takenShare);
        fusion.process();
        CHECKS.due("none of one", fusion.takenShare(), 0.0f);
        Runs.processAt(fusion, 1, 0, 0);
        CHECKS.due("one of two", fusion.takenShare(), 0.5f);
        Runs.processAt(fusion, 2, 0, 0);
        CHECKS.due("two of three", fusion.takenShare(), 2f / 3f);
        Runs.processAt(fusion, 1, 0, 0);
        CHECKS.due("a merged one counts once", fusion.takenShare(), 0.5f);
        Runs.processAt(fusion, 9, 0, 0, 300, 300, 600, 600);
        CHECKS.due("three of seven", fusion.takenShare(), 3f / 7f);
        TrackFusion full = Runs.with(1, 8, 4, 9, 0);
        Runs.processAt(full, 0, 0, 0, 100, 0, 200, 0, 300, 0);
        Runs.processAt(full, 0, 400, 0, 500, 0, 600, 0, 0, 0);
        CHECKS.due("one of eight, with one dropped", full.takenShare(), 0.125f);
    }

    private static void theMeanIsADouble() {
        TrackFusion fusion = Runs.with(20, 8, 4, 2, 2);
        CHECKS.dueThrow("meanHits() when new", NONE, fusion::meanHits);
        Runs.reportAt(fusion, 0, 0, 0, 100, 0, 200, 0);
        CHECKS.dueThrow("meanHits() with a batch", NONE, fusion::meanHits);
        fusion.process();
        CHECKS.due("one each", fusion.meanHits(), 1.0);
        Runs.processAt(fusion, 1, 0, 0);
        CHECKS.due("four of three", fusion.meanHits(), 4.0 / 3.0);
        Runs.processAt(fusion, 2, 0, 0, 100, 0);
        CHECKS.due("a lost one does not count", fusion.meanHits(), 2.5);
        Runs.processAt(fusion, 2, 101, 0, 102, 0);
        CHECKS.due("nor does a merged one, but its hits do", fusion.meanHits(), 3.5);
        fusion.setLimit(1);
        Runs.processAt(fusion, 2, 500, 0);
        CHECKS.due("only the new one", fusion.meanHits(), 1.0);
    }
}
