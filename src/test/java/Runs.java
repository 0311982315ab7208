/** Short ways to write runs of calls, and to read a track at one glance. */
final class Runs {
    private Runs() {
    }

    static TrackFusion with(int gate, int gain, int slope, int limit, int nearness) {
        TrackFusion fusion = new TrackFusion();
        fusion.setGate(gate);
        fusion.setFilter(gain, slope);
        fusion.setLimit(limit);
        fusion.setNearness(nearness);
        return fusion;
    }

    /** Puts reports at one time into the batch and processes it; the coordinates come in pairs. */
    static int processAt(TrackFusion fusion, int time, int... places) {
        reportAt(fusion, time, places);
        return fusion.process();
    }

    static void reportAt(TrackFusion fusion, int time, int... places) {
        for (int i = 0; i < places.length; i += 2) {
            fusion.report(0, time, places[i], places[i + 1]);
        }
    }

    static String state(TrackFusion fusion, int track) {
        return fusion.timeOf(track) + ": " + fusion.stateOf(track, 0) + " " + fusion.stateOf(track, 1) + " "
            + fusion.stateOf(track, 2) + " " + fusion.stateOf(track, 3);
    }

    static String history(TrackFusion fusion, int track) {
        StringBuilder signs = new StringBuilder();
        for (int i = 0; i < fusion.historyLength(track); i++) {
            signs.append(fusion.historyAt(track, i));
        }
        return signs.toString();
    }

    static String account(TrackFusion fusion, int track) {
        return fusion.status(track) + " " + fusion.hits(track) + " " + fusion.misses(track) + " "
            + history(fusion, track);
    }

    static String goals(TrackFusion fusion) {
        StringBuilder goals = new StringBuilder();
        for (int report = 0; report < fusion.batch(); report++) {
            goals.append(fusion.goesTo(report)).append(' ');
        }
        return goals.toString().trim();
    }
}
