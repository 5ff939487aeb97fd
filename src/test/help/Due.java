import java.util.function.Supplier;

/** Compares answers with those that are due, and counts the wrong ones. */
final class Due {
    static final Class<?> OUT = IndexOutOfBoundsException.class;
    static final Class<?> BAD = IllegalArgumentException.class;
    static final Class<?> FULL = IllegalStateException.class;
    static final Class<?> NONE = java.util.NoSuchElementException.class;

    private static int wrong = 0;
    private static String sentence = "";

    private Due() {
    }

    /** The sentence of the document that the next answers are due by. */
    static void by(String words) {
        sentence = words;
    }

    static void is(String call, Object got, Object want) {
        if (!got.equals(want)) {
            wrong++;
            System.out.println(sentence + ": " + call + " answered " + got + ", due is " + want);
        }
    }

    /** The exception must be of that very class, and thrown by the program itself, not by the machine or a list. */
    static void thrown(String call, Class<?> want, Supplier<Object> run) {
        Object got;
        try {
            got = run.get();
        } catch (RuntimeException e) {
            got = isOfTheProgram(e) ? e.getClass() : "by itself " + e;
        }
        is(call, got, want);
    }

    private static boolean isOfTheProgram(RuntimeException e) {
        StackTraceElement[] trace = e.getStackTrace();
        return trace.length > 0 && trace[0].getClassName().startsWith("Radiohearth");
    }

    /** What a call returns, or the class of the exception that it throws. */
    static Object answerOf(Supplier<Object> run) {
        try {
            return run.get();
        } catch (RuntimeException e) {
            return e.getClass();
        }
    }

    static void end(String tests) {
        System.out.println(tests + ": " + (wrong == 0 ? "all answers are as due" : wrong + " answers are not as due"));
        if (wrong != 0) {
            System.exit(1);
        }
    }
}
