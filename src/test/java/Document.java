import java.io.IOException;
import java.nio.file.Files;
import java.nio.file.Path;
import java.util.ArrayList;
import java.util.LinkedHashMap;
import java.util.List;
import java.util.Map;

/** The sentences of ../shared/DOC.md, by the place where they stand: "What it is", "Terms: Batch", "Promise 2". */
final class Document {
    private static final Path FILE = Path.of("../shared/DOC.md");

    private final Map<String, List<String>> sentences = new LinkedHashMap<>();

    Document() throws IOException {
        String heading = "";
        for (String line : Files.readAllLines(FILE)) {
            if (line.startsWith("## ")) {
                heading = line.substring(3).replaceAll("^(Promise \\d+): .*", "$1");
            } else if (!heading.isEmpty() && !line.isBlank() && !heading.equals("The public face")) {
                readParagraph(heading, line.trim());
            }
        }
    }

    /** A paragraph of the terms may begin with its own name, which is no sentence. */
    private void readParagraph(String heading, String line) {
        String place = heading;
        String text = line;
        if (heading.equals("Terms") && line.matches("[A-Z][a-z ]{1,25}\\. .*")) {
            place = "Terms: " + line.substring(0, line.indexOf('.'));
            text = line.substring(line.indexOf('.') + 2);
        }
        for (String sentence : text.split("(?<=\\.) (?=[A-Z`])")) {
            sentences.computeIfAbsent(place, key -> new ArrayList<>()).add(sentence.replaceAll("\\.$", ""));
        }
    }

    Map<String, List<String>> sentences() {
        return sentences;
    }
}
