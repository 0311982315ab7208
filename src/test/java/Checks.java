/** Compares answers with those that are due, and counts the wrong ones. */
final class Checks {
    interface Call {
        Object answer();
    }

    private int wrong = 0;
    private int asked = 0;

    void due(String call, Object got, Object want) {
        asked++;
        if (!got.equals(want)) {
            wrong++;
            System.out.println(call + " answered " + got + ", due is " + want);
        }
    }

    /** The exception must be just this one, not one of a class below it. */
    void dueThrow(String call, Class<? extends RuntimeException> want, Call tried) {
        due(call, answerOf(tried), "throws " + want.getSimpleName());
    }

    /** Answers what the call answers, or the name of what it throws. */
    static Object answerOf(Call tried) {
        try {
            return tried.answer();
        } catch (RuntimeException e) {
            return "throws " + e.getClass().getSimpleName();
        }
    }

    void end(String test) {
        System.out.println(test + ": " + asked + " answers, " + wrong + " wrong");
        if (wrong != 0 || asked == 0) {
            System.exit(1);
        }
    }
}
