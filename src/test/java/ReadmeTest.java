import java.io.IOException;
import java.lang.reflect.Method;
import java.lang.reflect.Modifier;
import java.nio.file.Files;
import java.nio.file.Path;
import java.util.ArrayList;
import java.util.List;
import java.util.Set;
import java.util.TreeSet;
import java.util.regex.Matcher;
import java.util.regex.Pattern;

/** README.md: each call of the class stands there with what it throws, and its example answers what it tells. */
public final class ReadmeTest {
    private static final Checks CHECKS = new Checks();
    private static final Pattern ROW = Pattern.compile("\\| `(\\w+)\\((.*?)\\)` \\| .*\\. \\|(.*)\\|");
    private static final Pattern STEP = Pattern.compile("(fusion\\..*\\));\\s+// ([^:]+): .*");

    private final List<String> steps = new ArrayList<>();

    public static void main(String[] args) throws IOException {
        List<String> page = Files.readAllLines(Path.of("README.md"));
        eachCallHasItsRow(page);
        new ReadmeTest().theExampleAnswersWhatItTells(page);
        CHECKS.end("ReadmeTest");
    }

    private static void eachCallHasItsRow(List<String> page) {
        Set<String> told = new TreeSet<>();
        int rows = 0;
        for (String line : page) {
            Matcher row = ROW.matcher(line);
            if (row.matches()) {
                int parameters = row.group(2).isEmpty() ? 0 : row.group(2).split(", ").length;
                told.add(row.group(1) + " " + parameters + " " + row.group(3).trim());
                rows++;
            }
        }
        Set<String> there = new TreeSet<>();
        for (Method method : TrackFusion.class.getDeclaredMethods()) {
            if (Modifier.isPublic(method.getModifiers())) {
                there.add(method.getName() + " " + method.getParameterCount() + " " + thrownBy(method));
            }
        }
        CHECKS.due("the rows of README.md", told, there);
        CHECKS.due("how many they are", rows, there.size());
    }

    private static String thrownBy(Method method) {
        List<String> names = new ArrayList<>();
        for (Class<?> exception : method.getExceptionTypes()) {
            names.add(exception.getSimpleName()
                .replaceAll("(Illegal|NoSuch)?(Index|Argument|State|Element|Arithmetic)(OutOfBounds)?Exception", "$2"));
        }
        return String.join(", ", names);
    }

    private void step(String call, Object answer) {
        steps.add(call + " answers " + answer);
    }

    private void theExampleAnswersWhatItTells(List<String> page) {
        TrackFusion fusion = new TrackFusion();
        step("fusion.addPair(0, 100, 110)", fusion.addPair(0, 100, 110));
        step("fusion.report(0, 120, 40, -7)", fusion.report(0, 120, 40, -7));
        step("fusion.process()", fusion.process());
        step("fusion.report(1, 132, 41, -7)", fusion.report(1, 132, 41, -7));
        step("fusion.goesTo(0)", fusion.goesTo(0));
        step("fusion.process()", fusion.process());
        step("fusion.status(0)", fusion.status(0));
        step("fusion.stateOf(0, 2)", fusion.stateOf(0, 2));
        step("fusion.predicted(0, 140, false)", fusion.predicted(0, 140, false));
        step("fusion.historyAt(0, 1)", fusion.historyAt(0, 1));
        List<String> told = new ArrayList<>();
        for (String line : page) {
            Matcher step = STEP.matcher(line);
            if (step.matches()) {
                told.add(step.group(1) + " answers " + step.group(2));
            }
        }
        CHECKS.due("the example of README.md", told, steps);
    }
}
