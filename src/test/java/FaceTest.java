import java.io.IOException;
import java.lang.reflect.Constructor;
import java.lang.reflect.Field;
import java.lang.reflect.Method;
import java.lang.reflect.Modifier;
import java.nio.file.Files;
import java.nio.file.Path;
import java.util.ArrayList;
import java.util.List;
import java.util.Set;
import java.util.TreeSet;
import java.util.regex.Pattern;

/** The public face, and those rules of LANGUAGE.md that the compiled class or its text shows. */
public final class FaceTest {
    private static final Checks CHECKS = new Checks();

    private static final String[] FACE = {
        "int addPair(int int int) IndexOutOfBoundsException IllegalArgumentException",
        "int forgetPairs(int) IndexOutOfBoundsException",
        "int correctedTime(int int) IndexOutOfBoundsException IllegalArgumentException",
        "int setGate(int) IllegalArgumentException",
        "int setFilter(int int) IllegalArgumentException",
        "int setLimit(int) IllegalArgumentException",
        "int setNearness(int) IllegalArgumentException",
        "int report(int int int int) IndexOutOfBoundsException IllegalArgumentException IllegalStateException",
        "int clearBatch()",
        "int process() IllegalStateException",
        "int batch()",
        "long distance(int int) IndexOutOfBoundsException NoSuchElementException",
        "boolean canTake(int int) IndexOutOfBoundsException NoSuchElementException",
        "long bestCost()",
        "long bestCostByTrying()",
        "int goesTo(int) IndexOutOfBoundsException",
        "int tracks()",
        "int liveTracks()",
        "char status(int) IndexOutOfBoundsException",
        "int timeOf(int) IndexOutOfBoundsException",
        "int stateOf(int int) IndexOutOfBoundsException IllegalArgumentException",
        "int predicted(int int boolean) IndexOutOfBoundsException IllegalArgumentException",
        "int hits(int) IndexOutOfBoundsException",
        "int misses(int) IndexOutOfBoundsException",
        "int mergedInto(int) IndexOutOfBoundsException NoSuchElementException",
        "int historyLength(int) IndexOutOfBoundsException",
        "char historyAt(int int) IndexOutOfBoundsException NoSuchElementException",
        "int quality(int) IndexOutOfBoundsException",
        "int countOf(char) IllegalArgumentException",
        "int nearest(int int int) IllegalArgumentException NoSuchElementException",
        "int dropped()",
        "boolean isBalanced()",
        "float takenShare() ArithmeticException",
        "double meanHits() ArithmeticException",
    };

    public static void main(String[] args) throws IOException {
        theClassHasTheFaceOfTheDocument();
        nothingElseIsVisible();
        classesInsideAreStaticAndFew();
        fieldsAreOfTheLanguage(TrackFusion.class);
        for (Class<?> one : TrackFusion.class.getDeclaredClasses()) {
            fieldsAreOfTheLanguage(one);
        }
        theTextKeepsToTheLanguage();
        methodsAreShort();
        theCallsStandUnderTheirHeadings();
        CHECKS.end("FaceTest");
    }

    private static void theClassHasTheFaceOfTheDocument() {
        int modifiers = TrackFusion.class.getModifiers();
        CHECKS.due("public and final", Modifier.isPublic(modifiers) && Modifier.isFinal(modifiers), true);
        CHECKS.due("its superclass", TrackFusion.class.getSuperclass(), Object.class);
        CHECKS.due("its interfaces", TrackFusion.class.getInterfaces().length, 0);
        CHECKS.due("its constructors", TrackFusion.class.getDeclaredConstructors().length, 1);
        Constructor<?> constructor = TrackFusion.class.getDeclaredConstructors()[0];
        CHECKS.due("a public constructor", Modifier.isPublic(constructor.getModifiers()), true);
        CHECKS.due("its parameters", constructor.getParameterCount(), 0);
        Set<String> found = new TreeSet<>();
        for (Method method : TrackFusion.class.getDeclaredMethods()) {
            if (Modifier.isPublic(method.getModifiers())) {
                found.add(textOf(method));
                CHECKS.due(method.getName() + " is static", Modifier.isStatic(method.getModifiers()), false);
            }
        }
        CHECKS.due("the public methods", found, new TreeSet<>(List.of(FACE)));
    }

    private static String textOf(Method method) {
        StringBuilder text = new StringBuilder(method.getReturnType().getSimpleName() + " " + method.getName());
        List<String> parameters = new ArrayList<>();
        for (Class<?> parameter : method.getParameterTypes()) {
            parameters.add(parameter.getSimpleName());
        }
        text.append('(').append(String.join(" ", parameters)).append(')');
        for (Class<?> exception : method.getExceptionTypes()) {
            text.append(' ').append(exception.getSimpleName());
        }
        return text.toString();
    }

    private static void nothingElseIsVisible() {
        Set<String> publicNames = new TreeSet<>();
        Set<String> privateNames = new TreeSet<>();
        for (Method method : TrackFusion.class.getDeclaredMethods()) {
            if (!method.isSynthetic()) {
                boolean isPublic = Modifier.isPublic(method.getModifiers());
                (isPublic ? publicNames : privateNames).add(method.getName());
                CHECKS.due(method.getName() + " is public or private",
                    isPublic || Modifier.isPrivate(method.getModifiers()), true);
            }
        }
        publicNames.retainAll(privateNames);
        CHECKS.due("names that are public and private", publicNames.toString(), "[]");
        for (Field field : TrackFusion.class.getDeclaredFields()) {
            CHECKS.due(field.getName() + " is private", Modifier.isPrivate(field.getModifiers()), true);
        }
    }

    private static void classesInsideAreStaticAndFew() {
        Class<?>[] inside = TrackFusion.class.getDeclaredClasses();
        CHECKS.due("at most twelve classes", inside.length < 12, true);
        for (Class<?> one : inside) {
            int modifiers = one.getModifiers();
            CHECKS.due(one.getSimpleName() + " is static", Modifier.isStatic(modifiers), true);
            CHECKS.due(one.getSimpleName() + " is not visible outside",
                Modifier.isPublic(modifiers) || Modifier.isProtected(modifiers), false);
            for (Method method : one.getDeclaredMethods()) {
                CHECKS.due(method.getName() + " has at most seven parameters", method.getParameterCount() <= 7, true);
            }
        }
    }

    /** Rules 3, 5 and 11: the types of fields, what is static is a constant, and some twenty fields beside them. */
    private static void fieldsAreOfTheLanguage(Class<?> one) {
        int changing = 0;
        for (Field field : one.getDeclaredFields()) {
            String name = one.getSimpleName() + "." + field.getName();
            Class<?> type = field.getType();
            if (Modifier.isStatic(field.getModifiers())) {
                CHECKS.due(name + " is final", Modifier.isFinal(field.getModifiers()), true);
                CHECKS.due(name + " is of a type for constants", type == String.class
                    || Set.of("int", "long", "boolean", "char").contains(type.getName()), true);
            } else {
                changing++;
                CHECKS.due(name + " is of a type of the language", isOfTheLanguage(type), true);
            }
        }
        CHECKS.due("at most twenty fields in " + one.getSimpleName(), changing <= 20, true);
    }

    private static boolean isOfTheLanguage(Class<?> type) {
        Class<?> part = type.isArray() ? type.getComponentType() : type;
        if (part.isArray()) {
            return part.getComponentType().isPrimitive();
        }
        return part.isPrimitive() || part == String.class || part.getDeclaringClass() == TrackFusion.class;
    }

    /** Rule 11: a method ends at the first brace that stands as far left as its beginning. */
    private static void methodsAreShort() throws IOException {
        List<String> lines = Files.readAllLines(Path.of("src/main/java/TrackFusion.java"));
        int methods = 0;
        for (int i = 0; i < lines.size(); i++) {
            if (lines.get(i).matches(" {4,8}[a-zA-Z].*\\(.*[^;]") && !lines.get(i).matches(" *(if|for|while|switch).*")) {
                String end = lines.get(i).replaceAll("\\S.*", "}");
                int length = lines.subList(i, lines.size()).indexOf(end);
                CHECKS.due("a method of at most sixty lines: " + lines.get(i), length > 0 && length < 60, true);
                methods++;
            }
        }
        CHECKS.due("methods that were found", methods > FACE.length, true);
    }

    private static void theTextKeepsToTheLanguage() throws IOException {
        String text = Files.readString(Path.of("src/main/java/TrackFusion.java"));
        String code = text.replaceAll("(?s)/\\*.*?\\*/", "").replaceAll("//[^\n]*", "")
            .replaceAll("\"[^\"\n]*\"", "\"\"");
        CHECKS.due("imports", code.replaceAll("(?s)^.*?import (.*?);.*$", "$1"), "java.util.NoSuchElementException");
        CHECKS.due("one import", code.split("\\bimport\\b").length, 2);
        String[] banned = {"->", "::", "\\bpackage\\b", "\\bfinally\\b", "\\bsynchronized\\b", "\\bassert\\b",
            "\\bnative\\b", "\\bcatch\\b", "\\bexports?\\b", "\\w+Exact\\b", "\\bSystem\\.(?!arraycopy)",
            "\\bMath\\.(?!max|min|abs|floorDiv|floorMod)", "\"\\s*\\+", "\\+\\s*\"", "@\\w+", "\\bvar\\b", "\\bObject\\b",
            "\\bprotected\\b", "\\bvolatile\\b", "\\bwhile \\(true", "[^\\x00-\\x7f]"};
        for (String pattern : banned) {
            CHECKS.due(pattern + " in the text", Pattern.compile(pattern).matcher(code).find(), false);
        }
    }

    /** "Ahead of the calls .. the interface says: ---- clocks", so the class says it there too. */
    private static void theCallsStandUnderTheirHeadings() throws IOException {
        String text = Files.readString(Path.of("src/main/java/TrackFusion.java"));
        int calls = 0;
        for (String sentence : new Document().sentences().get("Terms")) {
            if (sentence.startsWith("Ahead of the calls ")) {
                String heading = sentence.replaceAll("^.*: (---- [a-z]+)$", "$1");
                for (String call : sentence.replaceAll("^Ahead of the calls `(.*)` the .*$", "$1").split("`, `")) {
                    CHECKS.due("the heading of " + call, headingOf(text, call), heading);
                    calls++;
                }
            }
        }
        CHECKS.due("calls with a heading", calls, FACE.length);
    }

    private static String headingOf(String text, String call) {
        String heading = "none";
        for (String line : text.split("\n")) {
            if (line.trim().startsWith("// ---- ")) {
                heading = line.trim().substring(3);
            } else if (line.startsWith("    public ") && line.contains(" " + call + "(")) {
                return heading;
            }
        }
        return "none";
    }
}
