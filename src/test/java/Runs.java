/** Short ways to write runs of calls, and to read a track at one glance. */
final class Runs {
    private Runs() {
    }

    static TrackFusion with(int gate, int gain, int slope, int limit, int nearness) {
        TrackFusion fusion = new TrackFusion();
        fusion.setGate(gate);
        fusion.setFilter(gain, slope);
        fusion.setLimit(limit);
        fusion.setNearness(nearness);
        return fusion;
    }

    /** Puts reports at one time into the batch and processes it; the coordinates come in pairs. */
    static int processAt(TrackFusion fusion, int time, int... places) {
        reportAt(fusion, time, places);
        return fusion.process();
    }

    static void reportAt(TrackFusion fusion, int time, int... places) {
        for (int i = 0; i < places.length; i += 2) {
            fusion.report(0, time, places[i], places[i + 1]);
        }
    }

    /** Each pair is a time of the sensor and the true one. */
    static void addPairs(TrackFusion fusion, int sensor, int... times) {
        for (int i = 0; i < times.length; i += 2) {
            fusion.addPair(sensor, times[i], times[i + 1]);
        }
    }

    /** Takes 79 calls; the last four tracks are live, at 14 on (-900, 600), (-300, 600), (300, 600), (900, 600). */
    static TrackFusion sixtyBegun() {
        TrackFusion fusion = with(1, 8, 4, 1, 0);
        for (int i = 0; i < 15; i++) {
            int y = i % 2 == 0 ? 600 : -600;
            processAt(fusion, i, -900, y, -300, y, 300, y, 900, y);
        }
        return fusion;
    }

    /** A track that moves by 8 and 4 sixteenths; at 12 it is at 32 and 16 of them. */
    static TrackFusion moving(int nearness) {
        TrackFusion fusion = with(20, 8, 4, 9, nearness);
        processAt(fusion, 10, 0, 0);
        processAt(fusion, 12, 4, 2);
        return fusion;
    }

    /** A track at 0, so many sixteenths from (0, 0); then the gate is 1, the gain 16, the slope 0, the limit 9. */
    static TrackFusion atSixteenths(int x, int y) {
        TrackFusion fusion = with(500, 1, 0, 9, 0);
        processAt(fusion, 0, 0, 0);
        processAt(fusion, 0, x, y);
        fusion.setGate(1);
        fusion.setFilter(16, 0);
        return fusion;
    }

    static String state(TrackFusion fusion, int track) {
        return fusion.timeOf(track) + ": " + fusion.stateOf(track, 0) + " " + fusion.stateOf(track, 1) + " "
            + fusion.stateOf(track, 2) + " " + fusion.stateOf(track, 3);
    }

    static String history(TrackFusion fusion, int track) {
        StringBuilder signs = new StringBuilder();
        for (int i = 0; i < fusion.historyLength(track); i++) {
            signs.append(fusion.historyAt(track, i));
        }
        return signs.toString();
    }

    static String account(TrackFusion fusion, int track) {
        return fusion.status(track) + " " + fusion.hits(track) + " " + fusion.misses(track) + " "
            + history(fusion, track);
    }

    static String goals(TrackFusion fusion) {
        StringBuilder goals = new StringBuilder();
        for (int report = 0; report < fusion.batch(); report++) {
            goals.append(fusion.goesTo(report)).append(' ');
        }
        return goals.toString().trim();
    }
}
