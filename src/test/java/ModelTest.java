import java.util.Random;

/** All promises: runs of 512 calls, each answer compared with that of the plain model. The seeds are fixed. */
public final class ModelTest {
    private static final int RUNS_OF_A_KIND = 250;
    private static final int CALLS = 512;

    /** How the runs of a kind go: least and greatest settings, and the width of the places and of the times. */
    private enum Kind {
        FOLLOWING(10, 60, 1, 9, 0, 5, 150, 3), CHURNING(1, 20, 1, 2, 0, 2, 999, 3), MERGING(1, 10, 3, 9, 10, 100, 80, 2),
        TYING(5, 10, 3, 9, 0, 0, 4, 0), WILD(1, 500, 1, 9, 0, 100, 999, 3000), SWIFT(400, 500, 1, 9, 0, 30, 300, 1);

        final int leastGate;
        final int greatestGate;
        final int leastLimit;
        final int greatestLimit;
        final int leastNearness;
        final int greatestNearness;
        final int width;
        final int step;

        Kind(int leastGate, int greatestGate, int leastLimit, int greatestLimit, int leastNearness,
            int greatestNearness, int width, int step) {
            this.leastGate = leastGate;
            this.greatestGate = greatestGate;
            this.leastLimit = leastLimit;
            this.greatestLimit = greatestLimit;
            this.leastNearness = leastNearness;
            this.greatestNearness = greatestNearness;
            this.width = width;
            this.step = step;
        }
    }

    private static final int[] ODD_NUMBERS = {-1, 0, 1, 3, 4, 5, 9, 10, 16, 17, 59, 60, 61, 100, 101, 500, 501, 999, 1000,
        -999, -1000, 9999, 10000, -9999, -10000, 39999, 40000, Integer.MIN_VALUE, Integer.MAX_VALUE};

    private final Kind kind;
    private final Random random;
    private final TrackFusion fusion = new TrackFusion();
    private final PlainModel model = new PlainModel();
    private final StringBuilder calls = new StringBuilder();
    private int callCount;
    private int now;
    private boolean isRight = true;

    private ModelTest(Kind kind, int seed) {
        this.kind = kind;
        this.random = new Random(seed * 100L + kind.ordinal());
        this.now = kind == Kind.WILD ? 0 : 20;
    }

    public static void main(String[] args) {
        int[] met = new int[8];
        for (Kind kind : Kind.values()) {
            for (int seed = 0; seed < RUNS_OF_A_KIND; seed++) {
                ModelTest run = new ModelTest(kind, seed);
                if (!run.goesWell()) {
                    System.out.println(kind + " " + seed + " went wrong:\n" + run.calls);
                    System.exit(1);
                }
                run.countWhatWasMet(met);
            }
        }
        String[] names = {"dropped for six", "dropped for sixty", "held velocities", "ties", "greedy was wrong", "lost",
            "merged", "negative times"};
        for (int i = 0; i < met.length; i++) {
            System.out.println("  " + names[i] + ": " + met[i]);
            if (met[i] < 20) {
                System.out.println("the runs hardly meet this");
                System.exit(1);
            }
        }
        System.out.println("ModelTest: " + Kind.values().length * RUNS_OF_A_KIND + " runs as the model");
    }

    private void countWhatWasMet(int[] met) {
        met[0] += model.droppedForSix;
        met[1] += model.droppedForSixty;
        met[2] += model.held;
        met[3] += model.tiesInBest;
        met[4] += model.greedyWasWrong;
        met[5] += model.countOf('l');
        met[6] += model.countOf('m');
        met[7] += model.lines.stream().anyMatch(line -> line.time < 0) ? 1 : 0;
    }

    private boolean goesWell() {
        setUp();
        while (callCount < CALLS && isRight) {
            int choice = random.nextInt(100);
            if (choice < 40) {
                reportSomething();
            } else if (choice < 55) {
                same("process()", () -> fusion.process(), () -> model.process());
                now = Math.min(9999, now + random.nextInt(kind.step + 1));
            } else if (choice < 60) {
                clockCall();
            } else if (choice < 62) {
                settingCall();
            } else if (choice < 75) {
                batchQuestion();
            } else {
                trackQuestion();
            }
        }
        return isRight;
    }

    private void setUp() {
        boolean isTying = kind == Kind.TYING;
        int gate = isTying ? 5 * between(1, 2) : between(kind.leastGate, kind.greatestGate);
        int gain = isTying ? 16 : kind == Kind.SWIFT ? between(1, 16) : between(4, 16);
        int slope = isTying ? 0 : kind == Kind.SWIFT ? 16 : between(0, 16);
        int limit = between(kind.leastLimit, kind.greatestLimit);
        int nearness = between(kind.leastNearness, kind.greatestNearness);
        same("setGate(" + gate + ")", () -> fusion.setGate(gate), () -> model.setGate(gate));
        same("setFilter(" + gain + ", " + slope + ")", () -> fusion.setFilter(gain, slope),
            () -> model.setFilter(gain, slope));
        same("setLimit(" + limit + ")", () -> fusion.setLimit(limit), () -> model.setLimit(limit));
        same("setNearness(" + nearness + ")", () -> fusion.setNearness(nearness), () -> model.setNearness(nearness));
    }

    private void same(String call, Checks.Call asked, Checks.Call due) {
        Object answer = Checks.answerOf(asked);
        Object want = Checks.answerOf(due);
        calls.append(call).append(" answered ").append(answer).append(", due is ").append(want).append('\n');
        isRight &= answer.equals(want);
        callCount++;
    }

    private int between(int least, int greatest) {
        return least + random.nextInt(greatest - least + 1);
    }

    /** Now and then a number that may be out of range instead of a good one. */
    private int orOdd(int number) {
        return random.nextInt(60) == 0 ? ODD_NUMBERS[random.nextInt(ODD_NUMBERS.length)] : number;
    }

    private void reportSomething() {
        int sensor = orOdd(random.nextInt(4));
        int time = orOdd(kind == Kind.WILD && random.nextInt(4) == 0 ? random.nextInt(10000) : now - late());
        int[] place = {coordinate(), coordinate()};
        if (kind != Kind.TYING && !model.lines.isEmpty() && random.nextInt(3) > 0 && sensor >= 0 && sensor < 4) {
            aim(place, sensor, Math.max(0, Math.min(9999, time)));
        }
        int x = orOdd(place[0]);
        int y = orOdd(place[1]);
        same("report(" + sensor + ", " + time + ", " + x + ", " + y + ")", () -> fusion.report(sensor, time, x, y),
            () -> model.report(sensor, time, x, y));
    }

    private int late() {
        return now > 3 && random.nextInt(8) == 0 ? random.nextInt(3) : 0;
    }

    private int coordinate() {
        return kind == Kind.TYING ? 5 * random.nextInt(kind.width) : between(-kind.width, kind.width);
    }

    private void aim(int[] place, int sensor, int time) {
        PlainModel.Line line = model.lines.get(random.nextInt(model.lines.size()));
        int trueTime = model.correctedTime(sensor, time);
        int spread = kind == Kind.SWIFT ? 300 : 6;
        for (int k = 0; k < 2; k++) {
            long aimed = Math.floorDiv(line.predicted(k, trueTime), 16L) + between(-spread, spread);
            place[k] = (int) Math.max(-999, Math.min(999, aimed));
        }
    }

    private void clockCall() {
        int sensor = orOdd(random.nextInt(4));
        int choice = random.nextInt(10);
        int time = orOdd(kind == Kind.WILD ? random.nextInt(10000) : Math.min(9999, now + between(-20, 20)));
        if (choice < 3) {
            same("correctedTime(" + sensor + ", " + time + ")", () -> fusion.correctedTime(sensor, time),
                () -> model.correctedTime(sensor, time));
        } else if (choice < 4 && kind != Kind.TYING) {
            same("forgetPairs(" + sensor + ")", () -> fusion.forgetPairs(sensor), () -> model.forgetPairs(sensor));
        } else if (kind != Kind.TYING) {
            addPair(sensor, time);
        }
    }

    private void addPair(int sensor, int someTime) {
        boolean isAfter = sensor >= 0 && sensor < 4 && !model.pairs.get(sensor).isEmpty() && random.nextInt(3) > 0;
        PlainModel.Pair latest = isAfter ? model.pairs.get(sensor).get(model.pairs.get(sensor).size() - 1) : null;
        int passed = between(-1, 12);
        int time = isAfter ? latest.time + passed : someTime;
        int trueTime = orOdd(isAfter ? latest.trueTime + between(passed / 2, 2 * Math.abs(passed) + 1)
            : someTime + between(-5, 5));
        same("addPair(" + sensor + ", " + time + ", " + trueTime + ")", () -> fusion.addPair(sensor, time, trueTime),
            () -> model.addPair(sensor, time, trueTime));
    }

    private void settingCall() {
        int value = orOdd(between(0, 10));
        switch (random.nextInt(kind == Kind.TYING ? 2 : 4)) {
            case 0 -> same("setLimit(" + value + ")", () -> fusion.setLimit(value), () -> model.setLimit(value));
            case 1 -> {
                int gate = orOdd(kind == Kind.TYING ? 5 * between(1, 2) : between(kind.leastGate, kind.greatestGate));
                same("setGate(" + gate + ")", () -> fusion.setGate(gate), () -> model.setGate(gate));
            }
            case 2 -> {
                int slope = orOdd(between(0, 16));
                int gain = value + 1;
                same("setFilter(" + gain + ", " + slope + ")", () -> fusion.setFilter(gain, slope),
                    () -> model.setFilter(gain, slope));
            }
            default -> {
                int nearness = orOdd(between(kind.leastNearness, kind.greatestNearness));
                same("setNearness(" + nearness + ")", () -> fusion.setNearness(nearness),
                    () -> model.setNearness(nearness));
            }
        }
    }

    private void batchQuestion() {
        int report = orOdd(random.nextInt(4));
        int track = aTrack();
        switch (random.nextInt(16)) {
            case 0, 1 -> same("distance(" + report + ", " + track + ")", () -> fusion.distance(report, track),
                () -> model.distance(report, track));
            case 2, 3 -> same("canTake(" + report + ", " + track + ")", () -> fusion.canTake(report, track),
                () -> model.canTake(report, track));
            case 4, 5, 6 -> same("bestCost()", () -> fusion.bestCost(), () -> model.bestCost());
            case 7, 8, 9 -> same("bestCostByTrying()", () -> fusion.bestCostByTrying(), () -> model.bestCost());
            case 10 -> same("batch()", () -> fusion.batch(), () -> model.batch());
            case 11 -> {
                if (random.nextInt(4) == 0) {
                    same("clearBatch()", () -> fusion.clearBatch(), () -> model.clearBatch());
                }
            }
            default -> same("goesTo(" + report + ")", () -> fusion.goesTo(report), () -> model.goesTo(report));
        }
    }

    private int aTrack() {
        int begun = model.lines.size();
        return orOdd(begun > 8 && random.nextInt(4) > 0 ? begun - 1 - random.nextInt(8) : random.nextInt(begun + 1));
    }

    private void trackQuestion() {
        int track = aTrack();
        int time = orOdd(random.nextInt(3) == 0 ? between(-9999, 39999) : now + between(-2, 20));
        switch (random.nextInt(20)) {
            case 0 -> same("tracks()", () -> fusion.tracks(), () -> model.tracks());
            case 1 -> same("liveTracks()", () -> fusion.liveTracks(), () -> model.liveTracks());
            case 2 -> same("status(" + track + ")", () -> fusion.status(track), () -> model.status(track));
            case 3 -> same("timeOf(" + track + ")", () -> fusion.timeOf(track), () -> model.timeOf(track));
            case 4, 5, 6 -> {
                int part = orOdd(random.nextInt(4));
                same("stateOf(" + track + ", " + part + ")", () -> fusion.stateOf(track, part),
                    () -> model.stateOf(track, part));
            }
            case 7 -> {
                boolean isSecond = random.nextBoolean();
                same("predicted(" + track + ", " + time + ", " + isSecond + ")",
                    () -> fusion.predicted(track, time, isSecond), () -> model.predicted(track, time, isSecond));
            }
            case 8 -> same("hits(" + track + ")", () -> fusion.hits(track), () -> model.hits(track));
            case 9 -> same("misses(" + track + ")", () -> fusion.misses(track), () -> model.misses(track));
            case 10 -> same("mergedInto(" + track + ")", () -> fusion.mergedInto(track), () -> model.mergedInto(track));
            case 11, 16 -> historyQuestion(track);
            case 12 -> same("quality(" + track + ")", () -> fusion.quality(track), () -> model.quality(track));
            case 13 -> {
                char sign = "nhxlmgnhxlmgnhxlmgatc".charAt(random.nextInt(21));
                same("countOf(" + sign + ")", () -> fusion.countOf(sign), () -> model.countOf(sign));
            }
            case 14, 15 -> {
                int x = orOdd(coordinate());
                int y = orOdd(coordinate());
                same("nearest(" + time + ", " + x + ", " + y + ")", () -> fusion.nearest(time, x, y),
                    () -> model.nearest(time, x, y));
            }
            default -> accountQuestion();
        }
    }

    private void historyQuestion(int track) {
        int index = orOdd(random.nextInt(12));
        if (random.nextBoolean()) {
            same("historyLength(" + track + ")", () -> fusion.historyLength(track), () -> model.historyLength(track));
        } else {
            same("historyAt(" + track + ", " + index + ")", () -> fusion.historyAt(track, index),
                () -> model.historyAt(track, index));
        }
    }

    private void accountQuestion() {
        switch (random.nextInt(4)) {
            case 0 -> same("dropped()", () -> fusion.dropped(), () -> model.dropped());
            case 1 -> same("isBalanced()", () -> fusion.isBalanced(), () -> model.isBalanced());
            case 2 -> same("takenShare()", () -> fusion.takenShare(), () -> model.takenShare());
            default -> same("meanHits()", () -> fusion.meanHits(), () -> model.meanHits());
        }
    }
}
