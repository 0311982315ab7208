import java.lang.reflect.InvocationTargetException;
import java.lang.reflect.Method;
import java.util.ArrayList;
import java.util.Arrays;
import java.util.Comparator;
import java.util.List;

/** Runs tests that are named by a sentence of the document, and tells which of them fail. */
final class Edges {
    interface Call {
        Object on(TrackFusion fusion);
    }

    private final List<Sentence> held = new ArrayList<>();
    private String test = "";
    private int askedInTest;
    private int asked;
    private int wrong;

    void runAll(Class<?> tests) {
        Method[] methods = tests.getDeclaredMethods();
        Arrays.sort(methods, Comparator.comparing(Method::getName));
        for (Method method : methods) {
            if (method.isAnnotationPresent(Sentence.class)) {
                run(method, method.getAnnotation(Sentence.class));
            }
        }
    }

    private void run(Method method, Sentence sentence) {
        test = sentence.of() + ", \"" + sentence.says() + "\" (" + method.getDeclaringClass().getSimpleName() + "."
            + method.getName() + ")";
        held.add(sentence);
        askedInTest = 0;
        try {
            method.invoke(null, this);
        } catch (InvocationTargetException e) {
            fail("threw " + e.getCause());
        } catch (IllegalAccessException e) {
            fail("can't be run");
        }
        if (askedInTest == 0) {
            fail("asked nothing");
        }
    }

    void due(String call, Object got, Object want) {
        asked++;
        askedInTest++;
        if (!got.equals(want)) {
            fail(call + " answered " + got + ", due is " + want);
        }
    }

    /** The exception must be just this one, not one of a class below it. */
    void dueThrow(String call, Class<? extends RuntimeException> want, Checks.Call tried) {
        due(call, Checks.answerOf(tried), "throws " + want.getSimpleName());
    }

    /** The call must throw in each of the scenes (in all, if none is given), and leave no trace there. */
    void refused(String call, Class<? extends RuntimeException> want, Call tried, Scene... scenes) {
        for (Scene scene : scenes.length == 0 ? Scene.values() : scenes) {
            TrackFusion fusion = scene.make();
            dueThrow(scene + ": " + call, want, () -> tried.on(fusion));
            due(scene + ": all answers after " + call, scene.after(tried), scene.untouched());
            due(scene + ": all answers after " + call + " and process()",
                scene.after(tried, TrackFusion::process), scene.untouchedAndProcessed());
        }
    }

    void comparing() {
        test = "the tests and the document";
    }

    void fail(String what) {
        wrong++;
        System.out.println(test + ": " + what);
    }

    List<Sentence> held() {
        return held;
    }

    void end(String name) {
        System.out.println(name + ": " + held.size() + " tests, " + asked + " answers, " + wrong + " wrong");
        if (wrong != 0 || held.isEmpty()) {
            System.exit(1);
        }
    }
}
