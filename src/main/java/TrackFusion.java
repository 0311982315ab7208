import java.util.NoSuchElementException;

/** Fuses the reports of several sensors into tracks. ../shared/DOC.md tells what each call promises. */
public final class TrackFusion {
    private static final int SENSORS = 4;
    private static final int BATCH_ROOM = 4;
    private static final int TRACK_ROOM = 60;
    private static final int LIVE_ROOM = 6;

    private static final int LAST_SENSOR_TIME = 9999;
    private static final int FIRST_ASKED_TIME = -9999;
    private static final int LAST_ASKED_TIME = 39999;
    private static final int FARTHEST_PLACE = 999;

    private static final int WHOLE = 16;
    private static final int FASTEST = 1600;
    private static final int CONFIRMING_HITS = 3;
    private static final int MERGING_VELOCITY = 16;
    private static final int QUALITY_SIGNS = 8;

    /**
     * More than 512 calls can fill: they process 256 batches at most, each of which adds one sign, then one more for
     * each of the 59 other tracks that may be merged into this one, and one for its end.
     */
    private static final int HISTORY_ROOM = 512;
    private static final char BEGUN = 'n';
    private static final char HIT = 'h';
    private static final char MISSED = 'x';
    private static final char LOST = 'l';
    private static final char MERGED = 'm';
    private static final char GAINED = 'g';

    private static final int NONE = -1;
    private static final long CANNOT = -1L;
    private static final long MORE_THAN_ANY_COST = 1L << 60;

    private final Clock[] clocks = new Clock[SENSORS];
    private final Report[] reports = new Report[BATCH_ROOM];
    private int reportCount;
    private final Track[] begunTracks = new Track[TRACK_ROOM];
    private int begunCount;
    private final Matching matching = new Matching();
    private int gate = 20;
    private int gain = 8;
    private int slope = 4;
    private int limit = 3;
    private int nearness = 2;
    private int processedReports;
    private int droppedReports;

    public TrackFusion() {
        for (int i = 0; i < clocks.length; i++) {
            clocks[i] = new Clock();
        }
        for (int i = 0; i < reports.length; i++) {
            reports[i] = new Report();
        }
    }

    // ---- clocks

    public int addPair(int sensor, int time, int trueTime) throws IndexOutOfBoundsException, IllegalArgumentException {
        Clock clock = clockOf(sensor);
        refuseUnless(isSensorTime(time) && isSensorTime(trueTime));
        refuseUnless(clock.fits(time, trueTime));
        clock.add(time, trueTime);
        return clock.pairs;
    }

    public int forgetPairs(int sensor) throws IndexOutOfBoundsException {
        Clock clock = clockOf(sensor);
        int before = clock.pairs;
        clock.pairs = 0;
        return before;
    }

    public int correctedTime(int sensor, int time) throws IndexOutOfBoundsException, IllegalArgumentException {
        Clock clock = clockOf(sensor);
        refuseUnless(isSensorTime(time));
        return clock.putRight(time);
    }

    private Clock clockOf(int sensor) throws IndexOutOfBoundsException {
        Clock clock = sensor < 0 || sensor >= clocks.length ? null : clocks[sensor];
        if (clock == null) {
            throw new IndexOutOfBoundsException("no such sensor");
        }
        return clock;
    }

    // ---- settings

    public int setGate(int gate) throws IllegalArgumentException {
        refuseUnless(isWithin(gate, 1, 500));
        int before = this.gate;
        this.gate = gate;
        return before;
    }

    public int setFilter(int gain, int slope) throws IllegalArgumentException {
        refuseUnless(isWithin(gain, 1, 16) && isWithin(slope, 0, 16));
        int before = 100 * this.gain + this.slope;
        this.gain = gain;
        this.slope = slope;
        return before;
    }

    public int setLimit(int limit) throws IllegalArgumentException {
        refuseUnless(isWithin(limit, 1, 9));
        int before = this.limit;
        this.limit = limit;
        return before;
    }

    public int setNearness(int nearness) throws IllegalArgumentException {
        refuseUnless(isWithin(nearness, 0, 100));
        int before = this.nearness;
        this.nearness = nearness;
        return before;
    }

    // ---- batch

    public int report(int sensor, int time, int x, int y)
            throws IndexOutOfBoundsException, IllegalArgumentException, IllegalStateException {
        Clock clock = clockOf(sensor);
        refuseUnless(isSensorTime(time) && isPlace(x) && isPlace(y));
        Report free = rowAt(reportCount);
        if (free == null) {
            throw new IllegalStateException("the batch is full");
        }
        int number = reportCount;
        free.fill(clock.putRight(time), x, y);
        reportCount = number + 1;
        return number;
    }

    public int clearBatch() {
        int before = reportCount;
        reportCount = 0;
        return before;
    }

    public int process() throws IllegalStateException {
        if (reportCount == 0) {
            throw new IllegalStateException("the batch is empty");
        }
        findBestMatching();
        int taken = changeTakers();
        missOthers();
        beginTracks();
        mergeTracks();
        processedReports += reportCount;
        reportCount = 0;
        return taken;
    }

    public int batch() {
        return reportCount;
    }

    public long distance(int report, int track) throws IndexOutOfBoundsException, NoSuchElementException {
        Report asked = reportNumbered(report);
        return liveNumbered(track).distanceTo(asked);
    }

    public boolean canTake(int report, int track) throws IndexOutOfBoundsException, NoSuchElementException {
        Report asked = reportNumbered(report);
        return costOfTaking(asked, liveNumbered(track)) != CANNOT;
    }

    public long bestCost() {
        findBestMatching();
        return matching.leastCost;
    }

    public long bestCostByTrying() {
        prepareMatching();
        return leastCostFrom(matching, 0, 0);
    }

    public int goesTo(int report) throws IndexOutOfBoundsException {
        reportNumbered(report);
        findBestMatching();
        Track taker = matching.takerOf(report);
        return taker == null ? NONE : taker.number;
    }

    private Report reportNumbered(int number) throws IndexOutOfBoundsException {
        Report report = number < reportCount ? rowAt(number) : null;
        if (report == null) {
            throw new IndexOutOfBoundsException("no such report");
        }
        return report;
    }

    /** Answers null where the batch has no row, be it filled or not. */
    private Report rowAt(int number) {
        return number < 0 || number >= reports.length ? null : reports[number];
    }

    /** Answers CANNOT for a report that the track can't take. */
    private long costOfTaking(Report report, Track track) {
        if (report.time < track.time) {
            return CANNOT;
        }
        long distance = track.distanceTo(report);
        return distance <= squareOfSixteenths(gate) ? distance : CANNOT;
    }

    // ---- assignments

    private void findBestMatching() {
        prepareMatching();
        matching.leastCost = MORE_THAN_ANY_COST;
        extend(matching, 0, 0, 0L);
    }

    private void prepareMatching() {
        matching.clear(squareOfSixteenths(gate));
        for (int i = 0; i < begunCount; i++) {
            Track track = liveTrackAt(i);
            if (track != null) {
                matching.addTrack(track);
            }
        }
        for (int r = 0; r < reportCount; r++) {
            Report report = rowAt(r);
            if (report != null) {
                matching.addReport();
                fillCosts(r, report);
            }
        }
    }

    private void fillCosts(int number, Report report) {
        for (int t = 0; t < matching.trackCount; t++) {
            Track track = matching.trackAt(t);
            if (track != null) {
                matching.putCost(number, t, costOfTaking(report, track));
            }
        }
    }

    /**
     * Tries the tracks for a report from the lowest number on, and none at last. So, of the assignments
     * that cost least, the best one is met first, and one that only costs as much can be given up.
     */
    private static void extend(Matching matching, int report, int usedTracks, long cost) {
        if (cost >= matching.leastCost) {
            return;
        }
        if (report < 0 || report >= matching.reportCount || report >= BATCH_ROOM) {
            matching.keepChoice(cost);
            return;
        }
        for (int t = 0; t < matching.trackCount && t < LIVE_ROOM; t++) {
            long more = matching.costs[report][t];
            if (more != CANNOT && (usedTracks >> t & 1) == 0) {
                matching.choice[report] = t;
                extend(matching, report + 1, usedTracks | 1 << t, cost + more);
            }
        }
        matching.choice[report] = NONE;
        extend(matching, report + 1, usedTracks, cost + matching.costOfNone);
    }

    /** Gives nothing up, so that it can check the search that does. */
    private static long leastCostFrom(Matching matching, int report, int usedTracks) {
        if (report < 0 || report >= matching.reportCount || report >= BATCH_ROOM) {
            return 0L;
        }
        long least = matching.costOfNone + leastCostFrom(matching, report + 1, usedTracks);
        for (int t = 0; t < matching.trackCount && t < LIVE_ROOM; t++) {
            long more = matching.costs[report][t];
            if (more != CANNOT && (usedTracks >> t & 1) == 0) {
                least = Math.min(least, more + leastCostFrom(matching, report + 1, usedTracks | 1 << t));
            }
        }
        return least;
    }

    // ---- processing

    private int changeTakers() {
        int taken = 0;
        for (int r = 0; r < reportCount; r++) {
            Report report = rowAt(r);
            Track taker = matching.takerOf(r);
            if (report != null && taker != null) {
                taker.follow(report, gain, slope);
                taken++;
            }
        }
        return taken;
    }

    private void missOthers() {
        for (int t = 0; t < matching.trackCount; t++) {
            Track track = matching.trackAt(t);
            if (track != null && !matching.hasReportFor(t)) {
                track.miss(limit);
            }
        }
    }

    private void beginTracks() {
        for (int r = 0; r < reportCount; r++) {
            Report report = rowAt(r);
            if (report != null && matching.takerOf(r) == null) {
                beginOrDrop(report);
            }
        }
    }

    private void beginOrDrop(Report report) {
        if (countLive() >= LIVE_ROOM || begunCount < 0 || begunCount >= begunTracks.length) {
            droppedReports++;
        } else {
            begunTracks[begunCount] = new Track(begunCount, report);
            begunCount++;
        }
    }

    private void mergeTracks() {
        for (int i = 0; i < begunCount; i++) {
            Track keeper = liveTrackAt(i);
            if (keeper != null) {
                mergeLaterOnesInto(keeper);
            }
        }
    }

    private void mergeLaterOnesInto(Track keeper) {
        for (int i = keeper.number + 1; i < begunCount; i++) {
            Track other = liveTrackAt(i);
            if (other != null && areNear(keeper, other)) {
                keeper.absorb(other);
                other.mergeInto(keeper);
            }
        }
    }

    private boolean areNear(Track one, Track other) {
        int time = Math.max(one.time, other.time);
        long apart = squareSum(one.xAt(time) - other.xAt(time), one.yAt(time) - other.yAt(time));
        int difference = Math.abs(one.velocityX - other.velocityX) + Math.abs(one.velocityY - other.velocityY);
        return apart <= squareOfSixteenths(nearness) && difference <= MERGING_VELOCITY;
    }

    // ---- tracks

    public int tracks() {
        return begunCount;
    }

    public int liveTracks() {
        return countLive();
    }

    public char status(int track) throws IndexOutOfBoundsException {
        Track asked = trackNumbered(track);
        if (asked.isLive) {
            return asked.hitCount < CONFIRMING_HITS ? 't' : 'c';
        }
        return asked.merger == NONE ? 'l' : 'm';
    }

    public int timeOf(int track) throws IndexOutOfBoundsException {
        return trackNumbered(track).time;
    }

    public int stateOf(int track, int part) throws IndexOutOfBoundsException, IllegalArgumentException {
        Track asked = trackNumbered(track);
        refuseUnless(isWithin(part, 0, 3));
        if (part < 2) {
            return part == 0 ? asked.x : asked.y;
        }
        return part == 2 ? asked.velocityX : asked.velocityY;
    }

    public int predicted(int track, int time, boolean isSecond)
            throws IndexOutOfBoundsException, IllegalArgumentException {
        Track asked = trackNumbered(track);
        refuseUnless(isAskedTime(time));
        return Math.floorDiv(isSecond ? asked.yAt(time) : asked.xAt(time), WHOLE);
    }

    public int hits(int track) throws IndexOutOfBoundsException {
        return trackNumbered(track).hitCount;
    }

    public int misses(int track) throws IndexOutOfBoundsException {
        return trackNumbered(track).missCount;
    }

    public int mergedInto(int track) throws IndexOutOfBoundsException, NoSuchElementException {
        Track asked = trackNumbered(track);
        if (asked.merger == NONE) {
            throw new NoSuchElementException("not merged");
        }
        return asked.merger;
    }

    public int historyLength(int track) throws IndexOutOfBoundsException {
        return trackNumbered(track).signCount;
    }

    public char historyAt(int track, int index) throws IndexOutOfBoundsException, NoSuchElementException {
        Track asked = trackNumbered(track);
        if (index < 0 || index >= asked.signCount || index >= asked.signs.length) {
            throw new NoSuchElementException("no such sign");
        }
        return asked.signs[index];
    }

    public int quality(int track) throws IndexOutOfBoundsException {
        Track asked = trackNumbered(track);
        int from = asked.signCount - QUALITY_SIGNS;
        return asked.countSince(from, BEGUN) + asked.countSince(from, HIT);
    }

    public int countOf(char sign) throws IllegalArgumentException {
        refuseUnless(isSign(sign));
        return countSigns(sign);
    }

    public int nearest(int time, int x, int y) throws IllegalArgumentException, NoSuchElementException {
        refuseUnless(isAskedTime(time) && isPlace(x) && isPlace(y));
        int best = NONE;
        long least = 0L;
        for (int i = 0; i < begunCount; i++) {
            Track track = liveTrackAt(i);
            if (track != null) {
                long apart = squareSum(WHOLE * x - track.xAt(time), WHOLE * y - track.yAt(time));
                if (best == NONE || apart < least) {
                    best = i;
                    least = apart;
                }
            }
        }
        if (best == NONE) {
            throw new NoSuchElementException("no track is live");
        }
        return best;
    }

    private Track trackNumbered(int number) throws IndexOutOfBoundsException {
        Track track = trackAt(number);
        if (track == null) {
            throw new IndexOutOfBoundsException("no such track");
        }
        return track;
    }

    private Track liveNumbered(int number) throws NoSuchElementException {
        Track track = liveTrackAt(number);
        if (track == null) {
            throw new NoSuchElementException("no such live track");
        }
        return track;
    }

    /** Answers null if no such track was begun. */
    private Track trackAt(int number) {
        return number < 0 || number >= begunTracks.length ? null : begunTracks[number];
    }

    /** Answers null if there is no such live track. */
    private Track liveTrackAt(int number) {
        Track track = trackAt(number);
        return track == null || !track.isLive ? null : track;
    }

    private int countLive() {
        int live = 0;
        for (int i = 0; i < begunCount; i++) {
            if (liveTrackAt(i) != null) {
                live++;
            }
        }
        return live;
    }

    private int countSigns(char sign) {
        int count = 0;
        for (int i = 0; i < begunCount; i++) {
            Track track = trackAt(i);
            if (track != null) {
                count += track.countSince(0, sign);
            }
        }
        return count;
    }

    // ---- accounts

    public int dropped() {
        return droppedReports;
    }

    public boolean isBalanced() {
        return processedReports == countSigns(BEGUN) + countSigns(HIT) + droppedReports;
    }

    public float takenShare() throws ArithmeticException {
        if (processedReports == 0) {
            throw new ArithmeticException("no report was processed");
        }
        return (float) countSigns(HIT) / (float) processedReports;
    }

    public double meanHits() throws ArithmeticException {
        int live = 0;
        int sum = 0;
        for (int i = 0; i < begunCount; i++) {
            Track track = liveTrackAt(i);
            if (track != null) {
                live++;
                sum += track.hitCount;
            }
        }
        if (live == 0) {
            throw new ArithmeticException("no track is live");
        }
        return (double) sum / (double) live;
    }

    // ---- arguments and numbers

    private static void refuseUnless(boolean isRight) throws IllegalArgumentException {
        if (!isRight) {
            throw new IllegalArgumentException("an argument is out of range");
        }
    }

    private static boolean isWithin(int number, int least, int greatest) {
        return number >= least && number <= greatest;
    }

    private static boolean isSensorTime(int time) {
        return isWithin(time, 0, LAST_SENSOR_TIME);
    }

    private static boolean isAskedTime(int time) {
        return isWithin(time, FIRST_ASKED_TIME, LAST_ASKED_TIME);
    }

    private static boolean isPlace(int coordinate) {
        return isWithin(coordinate, -FARTHEST_PLACE, FARTHEST_PLACE);
    }

    private static boolean isSign(char sign) {
        return sign == BEGUN || sign == HIT || sign == MISSED || sign == LOST || sign == MERGED || sign == GAINED;
    }

    private static long squareSum(int first, int second) {
        return (long) first * first + (long) second * second;
    }

    private static long squareOfSixteenths(int whole) {
        return squareSum(WHOLE * whole, 0);
    }

    /** The latest two pairs of one sensor. */
    private static final class Clock {
        int pairs;
        private int earlierTime;
        private int earlierTrue;
        private int laterTime;
        private int laterTrue;

        boolean fits(int time, int trueTime) {
            if (pairs == 0) {
                return true;
            }
            int passed = time - laterTime;
            int trulyPassed = trueTime - laterTrue;
            return passed > 0 && 2 * trulyPassed >= passed && trulyPassed <= 2 * passed;
        }

        void add(int time, int trueTime) {
            earlierTime = laterTime;
            earlierTrue = laterTrue;
            laterTime = time;
            laterTrue = trueTime;
            pairs = pairs == 0 ? 1 : 2;
        }

        int putRight(int time) {
            if (pairs == 0) {
                return time;
            }
            int since = time - laterTime;
            int passed = laterTime - earlierTime;
            if (pairs == 1 || passed <= 0) {
                return laterTrue + since;
            }
            return laterTrue + Math.floorDiv(since * (laterTrue - earlierTrue), passed);
        }
    }

    /** A row of the batch, used again for each batch. */
    private static final class Report {
        int time;
        int x;
        int y;

        void fill(int correctedTime, int placeX, int placeY) {
            time = correctedTime;
            x = placeX;
            y = placeY;
        }
    }

    /** A track; its position and its velocity are in sixteenths. */
    private static final class Track {
        final int number;
        int time;
        int x;
        int y;
        int velocityX;
        int velocityY;
        int hitCount = 1;
        int missCount;
        boolean isLive = true;
        int merger = NONE;
        final char[] signs = new char[HISTORY_ROOM];
        int signCount;

        Track(int number, Report first) {
            this.number = number;
            time = first.time;
            x = WHOLE * first.x;
            y = WHOLE * first.y;
            signs[0] = BEGUN;
            signCount = 1;
        }

        int xAt(int otherTime) {
            return x + velocityX * (otherTime - time);
        }

        int yAt(int otherTime) {
            return y + velocityY * (otherTime - time);
        }

        long distanceTo(Report report) {
            return squareSum(WHOLE * report.x - xAt(report.time), WHOLE * report.y - yAt(report.time));
        }

        void follow(Report report, int gain, int slope) {
            int predictedX = xAt(report.time);
            int predictedY = yAt(report.time);
            int residualX = WHOLE * report.x - predictedX;
            int residualY = WHOLE * report.y - predictedY;
            int passed = report.time - time;
            x = predictedX + residualX * gain / WHOLE;
            y = predictedY + residualY * gain / WHOLE;
            velocityX = pushed(velocityX, residualX * slope, passed);
            velocityY = pushed(velocityY, residualY * slope, passed);
            time = report.time;
            hitCount++;
            missCount = 0;
            note(HIT);
        }

        private static int pushed(int velocity, int push, int passed) {
            int divisor = WHOLE * passed;
            if (divisor <= 0) {
                return velocity;
            }
            int result = velocity + push / divisor;
            return Math.max(-FASTEST, Math.min(FASTEST, result));
        }

        void miss(int limit) {
            missCount++;
            note(MISSED);
            if (missCount >= limit) {
                isLive = false;
                note(LOST);
            }
        }

        void absorb(Track other) {
            hitCount += other.hitCount;
            note(GAINED);
        }

        void mergeInto(Track keeper) {
            isLive = false;
            merger = keeper.number;
            note(MERGED);
        }

        private void note(char sign) {
            if (signCount >= 0 && signCount < signs.length) {
                signs[signCount] = sign;
                signCount++;
            }
        }

        int countSince(int from, char sign) {
            int count = 0;
            for (int i = Math.max(from, 0); i < signCount && i < signs.length; i++) {
                if (signs[i] == sign) {
                    count++;
                }
            }
            return count;
        }
    }

    /** What the search for assignments works on; a track is named here by its place among the live ones. */
    private static final class Matching {
        int reportCount;
        int trackCount;
        private final Track[] liveTracks = new Track[LIVE_ROOM];
        final long[][] costs = new long[BATCH_ROOM][LIVE_ROOM];
        long costOfNone;
        final int[] choice = new int[BATCH_ROOM];
        private final int[] bestChoice = new int[BATCH_ROOM];
        long leastCost;

        void clear(long newCostOfNone) {
            reportCount = 0;
            trackCount = 0;
            costOfNone = newCostOfNone;
        }

        void addTrack(Track track) {
            if (trackCount >= 0 && trackCount < liveTracks.length) {
                liveTracks[trackCount] = track;
                trackCount++;
            }
        }

        void addReport() {
            if (reportCount < BATCH_ROOM) {
                reportCount++;
            }
        }

        void putCost(int report, int track, long cost) {
            if (report >= 0 && report < BATCH_ROOM && track >= 0 && track < LIVE_ROOM) {
                costs[report][track] = cost;
            }
        }

        /** Answers null where there is no track. */
        Track trackAt(int track) {
            return track < 0 || track >= trackCount || track >= liveTracks.length ? null : liveTracks[track];
        }

        void keepChoice(long cost) {
            leastCost = cost;
            System.arraycopy(choice, 0, bestChoice, 0, BATCH_ROOM);
        }

        /** Answers null for a report that goes to none. */
        Track takerOf(int report) {
            if (report < 0 || report >= reportCount || report >= bestChoice.length) {
                return null;
            }
            return trackAt(bestChoice[report]);
        }

        boolean hasReportFor(int track) {
            for (int r = 0; r < reportCount && r < bestChoice.length; r++) {
                if (bestChoice[r] == track) {
                    return true;
                }
            }
            return false;
        }
    }
}
