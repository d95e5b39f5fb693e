import java.util.Objects;

/** Counts the answers that are not as due and prints each of them. */
final class Check {
    /** A call of the face; its answer counts, or the exception that it throws. */
    interface Call {
        Object answer();
    }

    private final String title;
    private String sentence = "";
    private int checked = 0;
    private int wrong = 0;

    Check(String title) {
        this.title = title;
    }

    /** The answer of a call, or the exception that it throws, as nameOf tells it. */
    static Object answerOf(Call call) {
        try {
            return call.answer();
        } catch (RuntimeException exception) {
            return nameOf(exception);
        }
    }

    /**
     * "throws X" with the simple name of the exception's own class. What the Java library or the
     * machine threw was not thrown by the program itself, so it is told apart and is never the
     * one that is due.
     */
    static String nameOf(Throwable exception) {
        StackTraceElement[] trace = exception.getStackTrace();
        String place = trace.length == 0 ? "java.lang" : trace[0].getClassName();
        String name = "throws " + exception.getClass().getSimpleName();
        if (place.startsWith("java.") || place.startsWith("jdk.")) {
            return name + " in " + place;
        }
        return "/ by zero".equals(exception.getMessage()) ? name + " of a division" : name;
    }

    /** The document's words that the answers from now on are about. */
    void about(String sentence) {
        this.sentence = "\"" + sentence + "\": ";
    }

    void due(String what, Object want, Call call) {
        Object got = answerOf(call);
        checked++;
        if (!Objects.equals(got, want)) {
            wrong++;
            System.out.println(sentence + what + " answered " + got + ", due is " + want);
        }
    }

    void badArgument(String what, Call call) {
        due(what, "throws IllegalArgumentException", call);
    }

    void badState(String what, Call call) {
        due(what, "throws IllegalStateException", call);
    }

    void badIndex(String what, Call call) {
        due(what, "throws IndexOutOfBoundsException", call);
    }

    void noElement(String what, Call call) {
        due(what, "throws NoSuchElementException", call);
    }

    void end() {
        System.out.println(title + ": " + checked + " answers, " + wrong + " not as due");
        if (wrong != 0) {
            System.exit(1);
        }
    }
}
