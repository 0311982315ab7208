import java.io.IOException;
import java.util.List;
import java.util.Map;

/** Every sentence of the document that names a boundary, each with a test of its own, named by the sentence. */
public final class EdgesTest {
    private static final Class<?>[] TESTS = {ClockEdges.class, SettingEdges.class, BatchEdges.class,
        AssignmentEdges.class, ProcessingEdges.class, TrackEdges.class, AccountEdges.class, ExceptionEdges.class};

    /** Sentences that name no boundary, or whose boundary another sentence of the same promise names. */
    private static final String[] WITHOUT_BOUNDARY = {
        "`[a-zA-Z]+ \\w+\\(.*\\).*`: [A-Z].*", "- `(sensor|report|track)`: the number of the \\1", "- `sign`: the sign",
        "Returns the (time|distance|cost|sign|number of (hits|misses|tracks|the track|reports|the other track|signs))",
        "Returns whether it can", "Its calls are those of a stream: .*", "A fusion of reports from several sensors .*",
        "Ahead of the calls .* the interface says: ---- [a-z]+", "A track has a time, a position of two coordinates .*",
    };
    private static final String NOT_PROMISED = "Not promised";

    public static void main(String[] args) throws IOException {
        Edges edges = new Edges();
        for (Class<?> tests : TESTS) {
            edges.runAll(tests);
        }
        compare(edges, new Document().sentences());
        edges.end("EdgesTest");
    }

    /** Each test must name a sentence that stands there, and each sentence with a boundary must have a test. */
    private static void compare(Edges edges, Map<String, List<String>> document) {
        edges.comparing();
        for (Sentence held : edges.held()) {
            List<String> there = document.getOrDefault(held.of(), List.of());
            if (there.stream().noneMatch(sentence -> sentence.contains(held.says()))) {
                edges.fail("no such sentence under " + held.of() + ": " + held.says());
            }
        }
        for (Map.Entry<String, List<String>> place : document.entrySet()) {
            for (String sentence : place.getValue()) {
                if (!place.getKey().equals(NOT_PROMISED) && !isHeld(edges, place.getKey(), sentence)
                    && !namesNoBoundary(sentence)) {
                    edges.fail("no test under " + place.getKey() + " for: " + sentence);
                }
            }
        }
    }

    private static boolean isHeld(Edges edges, String place, String sentence) {
        return edges.held().stream().anyMatch(held -> held.of().equals(place) && sentence.contains(held.says()));
    }

    private static boolean namesNoBoundary(String sentence) {
        for (String pattern : WITHOUT_BOUNDARY) {
            if (sentence.matches(pattern)) {
                return true;
            }
        }
        return false;
    }
}
