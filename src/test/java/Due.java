import java.lang.reflect.InvocationTargetException;
import java.lang.reflect.Method;
import java.lang.reflect.Modifier;
import java.util.Arrays;
import java.util.Comparator;

/** Compares answers with the ones that are due, and counts those that differ. */
final class Due {
    /** A call that is made in order to see what it throws. */
    interface Call {
        long answer();
    }

    private final String test;
    private int compared = 0;
    private int wrong = 0;
    private String sentence = "";
    private int comparedBefore = 0;

    Due(String test) {
        this.test = test;
    }

    /**
     * Runs each test of a class: each static method without arguments and answer, so that none can be left out. A test
     * that is ended by an exception is wrong, and the next one is run.
     */
    void each(Class<?> tests) {
        Method[] methods = tests.getDeclaredMethods();
        Arrays.sort(methods, Comparator.comparing(Method::getName));
        for (Method method : methods) {
            boolean isTest = Modifier.isStatic(method.getModifiers()) && !method.isSynthetic()
                    && method.getReturnType() == void.class && method.getParameterCount() == 0;
            if (isTest) {
                run(method);
            }
        }
    }

    private void run(Method method) {
        try {
            method.setAccessible(true);
            method.invoke(null);
        } catch (InvocationTargetException e) {
            compare(method.getName() + "()", "throws " + e.getCause(), "nothing");
        } catch (IllegalAccessException e) {
            throw new IllegalStateException(e);
        }
    }

    /**
     * Begins the test of a sentence of the document, which is told with each wrong answer. The words must stand in that
     * section of the document, and at least one answer must be compared before the next sentence.
     */
    void sentence(String section, String words) {
        endSentence();
        sentence = section + ": " + words;
        comparedBefore = compared;
        if (!Document.says(section, words)) {
            wrong++;
            System.out.println(test + ": the document does not say: " + sentence);
        }
    }

    private void endSentence() {
        if (!sentence.isEmpty() && compared == comparedBefore) {
            wrong++;
            System.out.println(test + ": nothing is compared for: " + sentence);
        }
    }

    void is(String call, long got, long want) {
        compare(call, Long.toString(got), Long.toString(want));
    }

    void is(String call, boolean got, boolean want) {
        compare(call, Boolean.toString(got), Boolean.toString(want));
    }

    void is(String call, String got, String want) {
        compare(call, got, want);
    }

    /** Doubles are compared by their bits, so that 0.0 differs from -0.0. */
    void isDouble(String call, double got, double want) {
        compare(call, Double.toString(got), Double.toString(want));
    }

    void outOfBounds(String call, Call tried) {
        compare(call, outcome(tried), "throws java.lang.IndexOutOfBoundsException");
    }

    void illegalArgument(String call, Call tried) {
        compare(call, outcome(tried), "throws java.lang.IllegalArgumentException");
    }

    void illegalState(String call, Call tried) {
        compare(call, outcome(tried), "throws java.lang.IllegalStateException");
    }

    /** What a call answers, or the class of what it throws: the class itself, not one above it. */
    static String outcome(Call tried) {
        try {
            return Long.toString(tried.answer());
        } catch (RuntimeException e) {
            return "throws " + e.getClass().getName();
        }
    }

    void compare(String call, String got, String want) {
        compared++;
        if (!got.equals(want)) {
            wrong++;
            System.out.println(test + ": " + call + " answered " + got + ", due is " + want
                    + (sentence.isEmpty() ? "" : " [" + sentence + "]"));
        }
    }

    int wrong() {
        return wrong;
    }

    /** Ends the test: with exit code 1 if an answer was not the one that is due. */
    void end() {
        endSentence();
        System.out.println(test + ": " + compared + " answers compared, " + wrong + " wrong");
        if (compared == 0 || wrong != 0) {
            System.exit(1);
        }
    }
}
