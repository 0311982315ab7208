import java.util.ArrayList;
import java.util.List;

/** Objects in states that are worth a look, made anew each time; looking at one takes some 300 of its 512 calls. */
enum Scene {
    /** Nothing was called yet. */
    NEW {
        @Override
        TrackFusion make() {
            return new TrackFusion();
        }
    },

    /** Clocks with no, one, two and three pairs; tracks of each status; two reports, one of which goes to a track. */
    BUSY {
        @Override
        TrackFusion make() {
            TrackFusion fusion = Runs.with(20, 8, 4, 2, 2);
            Runs.addPairs(fusion, 1, 100, 90);
            Runs.addPairs(fusion, 2, 100, 110, 200, 235);
            Runs.addPairs(fusion, 3, 0, 0, 10, 20, 20, 30);
            Runs.processAt(fusion, 0, 0, 0, 300, 0, 301, 0, -500, -500);
            Runs.processAt(fusion, 2, 4, 2, 300, 0);
            Runs.processAt(fusion, 4, 8, 4, -700, 700);
            fusion.report(2, 150, 12, 6);
            fusion.report(1, 30, -600, 0);
            fusion.setGate(400);
            fusion.setFilter(5, 7);
            fusion.setLimit(4);
            fusion.setNearness(9);
            return fusion;
        }
    },

    /** Six live tracks, four reports in the batch, and two that were dropped. */
    FULL {
        @Override
        TrackFusion make() {
            TrackFusion fusion = Runs.with(20, 8, 4, 9, 0);
            Runs.processAt(fusion, 0, 0, 0, 100, 0, 200, 0, 300, 0);
            Runs.processAt(fusion, 0, 400, 0, 500, 0, 600, 0, 700, 0);
            Runs.reportAt(fusion, 5, 3, 0, 105, 0, 900, 0, 205, 3);
            return fusion;
        }
    },

    /** Sixty tracks were begun, and one is live; two reports are in the batch. */
    SIXTY {
        @Override
        TrackFusion make() {
            TrackFusion fusion = Runs.sixtyBegun();
            Runs.processAt(fusion, 30, -900, 600, 0, 0);
            Runs.reportAt(fusion, 31, -899, 600, 0, 0);
            return fusion;
        }
    };

    private String untouched;
    private String untouchedAndProcessed;

    abstract TrackFusion make();

    /** What all calls answer after these calls, which may throw. */
    final String after(Edges.Call... calls) {
        TrackFusion fusion = make();
        for (Edges.Call call : calls) {
            Checks.answerOf(() -> call.on(fusion));
        }
        return look(fusion);
    }

    final String untouched() {
        if (untouched == null) {
            untouched = after();
        }
        return untouched;
    }

    final String untouchedAndProcessed() {
        if (untouchedAndProcessed == null) {
            untouchedAndProcessed = after(TrackFusion::process);
        }
        return untouchedAndProcessed;
    }

    private static String look(TrackFusion fusion) {
        List<Object> answers = new ArrayList<>();
        lookAtBatch(fusion, answers);
        lookAtTracks(fusion, answers);
        lookAtAccounts(fusion, answers);
        lookAtClocksAndSettings(fusion, answers);
        return answers.toString();
    }

    private static void note(List<Object> answers, Checks.Call call) {
        answers.add(Checks.answerOf(call));
    }

    private static int[] tracksToLookAt(TrackFusion fusion) {
        int begun = fusion.tracks();
        return begun > 8 ? new int[] {0, 1, begun - 4, begun - 3, begun - 2, begun - 1}
            : java.util.stream.IntStream.range(0, begun).toArray();
    }

    private static void lookAtBatch(TrackFusion fusion, List<Object> answers) {
        int reports = fusion.batch();
        answers.add("batch " + reports);
        note(answers, fusion::bestCost);
        note(answers, fusion::bestCostByTrying);
        for (int i = 0; i < reports; i++) {
            int report = i;
            note(answers, () -> fusion.goesTo(report));
            for (int track : tracksToLookAt(fusion)) {
                note(answers, () -> fusion.distance(report, track));
                note(answers, () -> fusion.canTake(report, track));
            }
        }
    }

    private static void lookAtTracks(TrackFusion fusion, List<Object> answers) {
        answers.add("tracks " + fusion.tracks() + " " + fusion.liveTracks());
        for (int track : tracksToLookAt(fusion)) {
            answers.add(Runs.state(fusion, track));
            answers.add(Runs.account(fusion, track));
            note(answers, () -> fusion.predicted(track, -9999, false));
            note(answers, () -> fusion.predicted(track, 39999, true));
            note(answers, () -> fusion.mergedInto(track));
            note(answers, () -> fusion.quality(track));
        }
        for (char sign : "nhxlmg".toCharArray()) {
            answers.add(fusion.countOf(sign));
        }
        note(answers, () -> fusion.nearest(100, 0, 0));
    }

    private static void lookAtAccounts(TrackFusion fusion, List<Object> answers) {
        answers.add("dropped " + fusion.dropped());
        note(answers, fusion::isBalanced);
        note(answers, fusion::takenShare);
        note(answers, fusion::meanHits);
    }

    /** Changes the object, so it comes last. */
    private static void lookAtClocksAndSettings(TrackFusion fusion, List<Object> answers) {
        answers.add("clocks");
        for (int i = 0; i < 4; i++) {
            int sensor = i;
            answers.add(fusion.correctedTime(sensor, 0));
            answers.add(fusion.correctedTime(sensor, 9999));
            note(answers, () -> fusion.addPair(sensor, 250, 260));
            answers.add(fusion.forgetPairs(sensor));
        }
        answers.add("settings " + fusion.setGate(1) + " " + fusion.setFilter(1, 1) + " " + fusion.setLimit(1) + " "
            + fusion.setNearness(1));
    }
}
