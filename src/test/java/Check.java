import java.util.Objects;

/** Counts the answers that are not as due and prints each of them. */
final class Check {
    /** A call of the face; its answer counts, or the exception that it throws. */
    interface Call {
        Object answer();
    }

    private final String title;
    private int checked = 0;
    private int wrong = 0;

    Check(String title) {
        this.title = title;
    }

    /**
     * The answer of a call, or "throws X" with the simple name of the exception's own class.
     * An exception that comes out of the Java library was not thrown by the program itself, so
     * it is told with its place and is never the one that is due.
     */
    static Object answerOf(Call call) {
        try {
            return call.answer();
        } catch (RuntimeException exception) {
            String place = exception.getStackTrace()[0].getClassName();
            String name = exception.getClass().getSimpleName();
            return "throws " + name + (place.startsWith("java.") || place.startsWith("jdk.") ? " in " + place : "");
        }
    }

    void due(String what, Object want, Call call) {
        Object got = answerOf(call);
        checked++;
        if (!Objects.equals(got, want)) {
            wrong++;
            System.out.println(what + " answered " + got + ", due is " + want);
        }
    }

    void badArgument(String what, Call call) {
        due(what, "throws IllegalArgumentException", call);
    }

    void badState(String what, Call call) {
        due(what, "throws IllegalStateException", call);
    }

    void badIndex(String what, Call call) {
        due(what, "throws IndexOutOfBoundsException", call);
    }

    void noElement(String what, Call call) {
        due(what, "throws NoSuchElementException", call);
    }

    void end() {
        System.out.println(title + ": " + checked + " answers, " + wrong + " not as due");
        if (wrong != 0) {
            System.exit(1);
        }
    }
}
