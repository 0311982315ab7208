import java.util.ArrayList;
import java.util.List;
import java.util.NoSuchElementException;

/** The document once more, as plainly as can be, for comparing answers: no care for speed, and any of the library. */
final class PlainModel {
    static final class Pair {
        final int time;
        final int trueTime;

        Pair(int time, int trueTime) {
            this.time = time;
            this.trueTime = trueTime;
        }
    }

    static final class Place {
        final int time;
        final int[] at;

        Place(int time, int x, int y) {
            this.time = time;
            this.at = new int[] {x, y};
        }
    }

    static final class Line {
        long time;
        final long[] position = new long[2];
        final long[] velocity = new long[2];
        int hits = 1;
        int misses = 0;
        int into = -1;
        String fate = "live";
        String history = "n";

        boolean isLive() {
            return fate.equals("live");
        }

        long predicted(int coordinate, long atTime) {
            return position[coordinate] + velocity[coordinate] * (atTime - time);
        }
    }

    final List<List<Pair>> pairs = new ArrayList<>();
    final List<Place> batch = new ArrayList<>();
    final List<Line> lines = new ArrayList<>();
    long gate = 20;
    long gain = 8;
    long slope = 4;
    long limit = 3;
    long nearness = 2;
    int processed = 0;
    int dropped = 0;

    // How often each of these was met, so that a test can tell whether its runs went there.
    int droppedForSix = 0;
    int droppedForSixty = 0;
    int held = 0;
    int tiesInBest = 0;
    int greedyWasWrong = 0;

    PlainModel() {
        for (int sensor = 0; sensor < 4; sensor++) {
            pairs.add(new ArrayList<>());
        }
    }

    private static void index(boolean isRight) {
        if (!isRight) {
            throw new IndexOutOfBoundsException();
        }
    }

    private static void argument(boolean isRight) {
        if (!isRight) {
            throw new IllegalArgumentException();
        }
    }

    private static void element(boolean isRight) {
        if (!isRight) {
            throw new NoSuchElementException();
        }
    }

    int addPair(int sensor, int time, int trueTime) {
        index(0 <= sensor && sensor <= 3);
        argument(0 <= time && time <= 9999 && 0 <= trueTime && trueTime <= 9999);
        List<Pair> known = pairs.get(sensor);
        if (!known.isEmpty()) {
            Pair latest = known.get(known.size() - 1);
            double steepness = (trueTime - latest.trueTime) / (double) (time - latest.time);
            argument(time > latest.time && steepness >= 0.5 && steepness <= 2.0);
        }
        known.add(new Pair(time, trueTime));
        return Math.min(known.size(), 2);
    }

    int forgetPairs(int sensor) {
        index(0 <= sensor && sensor <= 3);
        int kept = Math.min(pairs.get(sensor).size(), 2);
        pairs.get(sensor).clear();
        return kept;
    }

    int correctedTime(int sensor, int time) {
        index(0 <= sensor && sensor <= 3);
        argument(0 <= time && time <= 9999);
        List<Pair> known = pairs.get(sensor);
        if (known.isEmpty()) {
            return time;
        }
        Pair later = known.get(known.size() - 1);
        if (known.size() == 1) {
            return time + later.trueTime - later.time;
        }
        Pair earlier = known.get(known.size() - 2);
        double product = (double) (time - later.time) * (later.trueTime - earlier.trueTime);
        return later.trueTime + (int) Math.floor(product / (later.time - earlier.time));
    }

    int setGate(int value) {
        argument(1 <= value && value <= 500);
        long before = gate;
        gate = value;
        return (int) before;
    }

    int setFilter(int newGain, int newSlope) {
        argument(1 <= newGain && newGain <= 16 && 0 <= newSlope && newSlope <= 16);
        long before = gain * 100 + slope;
        gain = newGain;
        slope = newSlope;
        return (int) before;
    }

    int setLimit(int value) {
        argument(1 <= value && value <= 9);
        long before = limit;
        limit = value;
        return (int) before;
    }

    int setNearness(int value) {
        argument(0 <= value && value <= 100);
        long before = nearness;
        nearness = value;
        return (int) before;
    }

    int report(int sensor, int time, int x, int y) {
        index(0 <= sensor && sensor <= 3);
        argument(0 <= time && time <= 9999 && Math.abs((long) x) <= 999 && Math.abs((long) y) <= 999);
        if (batch.size() == 4) {
            throw new IllegalStateException();
        }
        batch.add(new Place(correctedTime(sensor, time), x, y));
        return batch.size() - 1;
    }

    int clearBatch() {
        int size = batch.size();
        batch.clear();
        return size;
    }

    int process() {
        if (batch.isEmpty()) {
            throw new IllegalStateException();
        }
        List<Integer> goals = bestAssignment();
        int taken = 0;
        for (int i = 0; i < batch.size(); i++) {
            if (goals.get(i) < NO_LINE) {
                change(lines.get(goals.get(i)), batch.get(i));
                taken++;
            }
        }
        for (int i = 0; i < lines.size(); i++) {
            Line line = lines.get(i);
            if (line.isLive() && !goals.contains(i)) {
                line.misses++;
                line.history += "x";
                if (line.misses >= limit) {
                    line.fate = "lost";
                    line.history += "l";
                }
            }
        }
        for (int i = 0; i < batch.size(); i++) {
            if (goals.get(i) == NO_LINE) {
                begin(batch.get(i));
            }
        }
        for (int a = 0; a < lines.size(); a++) {
            for (int b = a + 1; b < lines.size(); b++) {
                mergeIfNear(a, b);
            }
        }
        processed += batch.size();
        batch.clear();
        return taken;
    }

    private void change(Line line, Place place) {
        long passed = place.time - line.time;
        for (int k = 0; k < 2; k++) {
            long predicted = line.predicted(k, place.time);
            long residual = 16L * place.at[k] - predicted;
            line.position[k] = predicted + towardZero(residual * gain, 16);
            if (passed > 0) {
                long velocity = line.velocity[k] + towardZero(residual * slope, 16 * passed);
                if (velocity > 1600 || velocity < -1600) {
                    held++;
                    velocity = velocity > 0 ? 1600 : -1600;
                }
                line.velocity[k] = velocity;
            }
        }
        line.time = place.time;
        line.hits++;
        line.misses = 0;
        line.history += "h";
    }

    private static long towardZero(long number, long divisor) {
        long size = Math.abs(number) / divisor;
        return number < 0 ? -size : size;
    }

    private void begin(Place place) {
        if (lines.size() == 60) {
            dropped++;
            droppedForSixty++;
        } else if (liveTracks() == 6) {
            dropped++;
            droppedForSix++;
        } else {
            Line line = new Line();
            line.time = place.time;
            line.position[0] = 16L * place.at[0];
            line.position[1] = 16L * place.at[1];
            lines.add(line);
        }
    }

    private void mergeIfNear(int a, int b) {
        Line one = lines.get(a);
        Line two = lines.get(b);
        if (!one.isLive() || !two.isLive()) {
            return;
        }
        long time = Math.max(one.time, two.time);
        long apart = 0;
        long difference = 0;
        for (int k = 0; k < 2; k++) {
            long gap = one.predicted(k, time) - two.predicted(k, time);
            apart += gap * gap;
            difference += Math.abs(one.velocity[k] - two.velocity[k]);
        }
        if (apart <= 256 * nearness * nearness && difference <= 16) {
            one.hits += two.hits;
            one.history += "g";
            two.fate = "merged";
            two.into = a;
            two.history += "m";
        }
    }

    int batch() {
        return batch.size();
    }

    long distance(int report, int track) {
        index(0 <= report && report < batch.size());
        element(0 <= track && track < lines.size() && lines.get(track).isLive());
        return apart(batch.get(report), lines.get(track));
    }

    private static long apart(Place place, Line line) {
        long first = 16L * place.at[0] - line.predicted(0, place.time);
        long second = 16L * place.at[1] - line.predicted(1, place.time);
        return first * first + second * second;
    }

    boolean canTake(int report, int track) {
        long distance = distance(report, track);
        return batch.get(report).time >= lines.get(track).time && distance <= 256 * gate * gate;
    }

    /** Stands for none, behind all tracks. */
    static final int NO_LINE = 1000;

    /** All assignments, one list of goals for each; the lists are in ascending order. */
    private List<List<Integer>> allAssignments() {
        List<List<Integer>> all = new ArrayList<>();
        all.add(new ArrayList<>());
        for (int report = 0; report < batch.size(); report++) {
            List<List<Integer>> longer = new ArrayList<>();
            for (List<Integer> goals : all) {
                for (int track = 0; track <= lines.size(); track++) {
                    boolean isNone = track == lines.size();
                    if (isNone || lines.get(track).isLive() && !goals.contains(track) && canTake(report, track)) {
                        List<Integer> next = new ArrayList<>(goals);
                        next.add(isNone ? NO_LINE : track);
                        longer.add(next);
                    }
                }
            }
            all = longer;
        }
        return all;
    }

    private long costOf(List<Integer> goals) {
        long cost = 0;
        for (int i = 0; i < goals.size(); i++) {
            cost += goals.get(i) == NO_LINE ? 256 * gate * gate : distance(i, goals.get(i));
        }
        return cost;
    }

    private List<Integer> bestAssignment() {
        List<Integer> best = null;
        int equals = 0;
        List<List<Integer>> all = allAssignments();
        for (List<Integer> goals : all) {
            long difference = best == null ? -1 : costOf(goals) - costOf(best);
            if (difference < 0) {
                best = goals;
                equals = 0;
            } else if (difference == 0) {
                equals++;
            }
        }
        tiesInBest += equals > 0 ? 1 : 0;
        greedyWasWrong += best.equals(greedyAssignment()) ? 0 : 1;
        return best;
    }

    private List<Integer> greedyAssignment() {
        List<Integer> goals = new ArrayList<>();
        for (int report = 0; report < batch.size(); report++) {
            int goal = NO_LINE;
            for (int track = 0; track < lines.size(); track++) {
                if (lines.get(track).isLive() && !goals.contains(track) && canTake(report, track)
                    && (goal == NO_LINE || distance(report, track) < distance(report, goal))) {
                    goal = track;
                }
            }
            goals.add(goal);
        }
        return goals;
    }

    long bestCost() {
        return costOf(bestAssignment());
    }

    int goesTo(int report) {
        index(0 <= report && report < batch.size());
        int goal = bestAssignment().get(report);
        return goal == NO_LINE ? -1 : goal;
    }

    int tracks() {
        return lines.size();
    }

    int liveTracks() {
        return (int) lines.stream().filter(Line::isLive).count();
    }

    private Line line(int track) {
        index(0 <= track && track < lines.size());
        return lines.get(track);
    }

    char status(int track) {
        Line line = line(track);
        if (line.isLive()) {
            return line.hits >= 3 ? 'c' : 't';
        }
        return line.fate.charAt(0);
    }

    int timeOf(int track) {
        return (int) line(track).time;
    }

    int stateOf(int track, int part) {
        Line line = line(track);
        argument(0 <= part && part <= 3);
        return (int) (part < 2 ? line.position[part] : line.velocity[part - 2]);
    }

    int predicted(int track, int time, boolean isSecond) {
        Line line = line(track);
        argument(-9999 <= time && time <= 39999);
        return (int) Math.floor(line.predicted(isSecond ? 1 : 0, time) / 16.0);
    }

    int hits(int track) {
        return line(track).hits;
    }

    int misses(int track) {
        return line(track).misses;
    }

    int mergedInto(int track) {
        element(line(track).fate.equals("merged"));
        return line(track).into;
    }

    int historyLength(int track) {
        return line(track).history.length();
    }

    char historyAt(int track, int index) {
        String history = line(track).history;
        element(0 <= index && index < history.length());
        return history.charAt(index);
    }

    int quality(int track) {
        String history = line(track).history;
        String last = history.substring(Math.max(0, history.length() - 8));
        return last.replaceAll("[^hn]", "").length();
    }

    int countOf(char sign) {
        argument("nhxlmg".indexOf(sign) >= 0);
        int count = 0;
        for (Line line : lines) {
            count += (int) line.history.chars().filter(c -> c == sign).count();
        }
        return count;
    }

    int nearest(int time, int x, int y) {
        argument(-9999 <= time && time <= 39999 && Math.abs((long) x) <= 999 && Math.abs((long) y) <= 999);
        int best = -1;
        for (int i = lines.size() - 1; i >= 0; i--) {
            Place place = new Place(time, x, y);
            if (lines.get(i).isLive() && (best < 0 || apart(place, lines.get(i)) <= apart(place, lines.get(best)))) {
                best = i;
            }
        }
        element(best >= 0);
        return best;
    }

    int dropped() {
        return dropped;
    }

    boolean isBalanced() {
        return processed == countOf('n') + countOf('h') + dropped;
    }

    float takenShare() {
        if (processed == 0) {
            throw new ArithmeticException();
        }
        return (float) countOf('h') / (float) processed;
    }

    double meanHits() {
        if (liveTracks() == 0) {
            throw new ArithmeticException();
        }
        return (double) lines.stream().filter(Line::isLive).mapToInt(line -> line.hits).sum() / (double) liveTracks();
    }
}
