import java.lang.reflect.InvocationTargetException;
import java.lang.reflect.Method;
import java.util.ArrayList;
import java.util.HashMap;
import java.util.List;
import java.util.Map;

/**
 * One object of EventTracer and the calls that it has had, each written as a text such as
 * "hit 0 0 0"; so the same calls can be made again on a new object.
 */
final class Run {
    static final int MOST_CALLS = 512;
    static final String ARGUMENT = "throws IllegalArgumentException";
    static final String STATE = "throws IllegalStateException";
    static final String INDEX = "throws IndexOutOfBoundsException";
    static final String ELEMENT = "throws NoSuchElementException";
    static final String UNSUPPORTED = "throws UnsupportedOperationException";
    static final String ARITHMETIC = "throws ArithmeticException";

    private static final Map<String, Method> FACE = faceByName();

    private final Check check;
    private final EventTracer tracer = new EventTracer();
    private final List<String> calls = new ArrayList<>();
    private final StringBuilder typed = new StringBuilder();
    private Look lookSoFar = null;

    Run(Check check) {
        this.check = check;
    }

    private static Map<String, Method> faceByName() {
        Map<String, Method> face = new HashMap<>();
        for (Method method : EventTracer.class.getDeclaredMethods()) {
            if (java.lang.reflect.Modifier.isPublic(method.getModifiers())) {
                face.put(method.getName(), method);
            }
        }
        return face;
    }

    int callCount() {
        return calls.size();
    }

    /** The same calls on a new object. */
    Run again() {
        Run other = new Run(check);
        calls.forEach(other::answer);
        return other;
    }

    /** Makes one call; its answer, or "throws X" if it throws. */
    Object answer(String call) {
        if (calls.size() == MOST_CALLS) {
            throw new AssertionError("a test makes more than 512 calls on one object");
        }
        calls.add(call);
        lookSoFar = null;
        Object answer = invoke(call.split(" "));
        noteTyped(call, answer);
        return answer;
    }

    private Object invoke(String[] words) {
        Method method = FACE.get(words[0]);
        if (method == null) {
            throw new AssertionError("no such call: " + words[0]);
        }
        Class<?>[] types = method.getParameterTypes();
        Object[] arguments = new Object[types.length];
        for (int i = 0; i < types.length; i++) {
            arguments[i] = parse(words[i + 1], types[i]);
        }
        try {
            return method.invoke(tracer, arguments);
        } catch (InvocationTargetException exception) {
            return Check.nameOf(exception.getCause());
        } catch (IllegalAccessException exception) {
            throw new AssertionError(exception);
        }
    }

    /** A character stands for itself, or is told by its number in two digits or more. */
    private static Object parse(String word, Class<?> type) {
        if (type == boolean.class) {
            return Boolean.valueOf(word);
        }
        if (type == char.class) {
            return word.length() == 1 ? word.charAt(0) : (char) Integer.parseInt(word);
        }
        return Integer.valueOf(word);
    }

    /**
     * Makes calls, separated by "; ", none of which is refused. Beside the calls of the face there
     * are: "text t" types t, "place t" adds a place, "probe t c" adds a probe of cost c, and
     * "exchange p q t" sends a message from p, which q receives t ticks later.
     */
    Run does(String script) {
        for (String line : script.split("; ")) {
            String[] words = line.split(" ");
            switch (words[0]) {
                case "text" -> typeAll(words[1]);
                case "place" -> {
                    typeAll(words[1]);
                    doesOne("addPlace");
                }
                case "probe" -> {
                    typeAll(words[1]);
                    doesOne("addProbe " + words[2]);
                }
                case "exchange" -> exchange(words[1], words[2], words[3]);
                default -> doesOne(line);
            }
        }
        return this;
    }

    Run times(int count, String script) {
        for (int i = 0; i < count; i++) {
            does(script);
        }
        return this;
    }

    private void typeAll(String text) {
        for (int i = 0; i < text.length(); i++) {
            doesOne("type " + text.charAt(i));
        }
    }

    private void exchange(String from, String to, String ticks) {
        Object message = doesOne("send " + from);
        if (!ticks.equals("0")) {
            doesOne("pass " + ticks);
        }
        doesOne("receive " + message + " " + to);
    }

    private Object doesOne(String call) {
        Object answer = answer(call);
        check.due(place() + " is refused", false, () -> String.valueOf(answer).startsWith("throws"));
        return answer;
    }

    private String place() {
        return "call " + calls.size() + ", " + calls.get(calls.size() - 1);
    }

    /** Makes a call whose answer is due. */
    Run due(String call, Object want) {
        Object got = answer(call);
        check.due(place(), want, () -> got);
        return this;
    }

    /** Asks all of the calls, separated by "; ", whose answers are due, separated by spaces. */
    Run dueAll(String script, String want) {
        List<String> answers = new ArrayList<>();
        for (String call : script.split("; ")) {
            answers.add(String.valueOf(answer(call)));
        }
        check.due("up to call " + calls.size() + ", " + script, want, () -> String.join(" ", answers));
        return this;
    }

    /** On a new object with the same calls, one more call throws, and nothing has changed after it. */
    Run refused(String call, String exception) {
        Run twin = again();
        twin.due(call, exception);
        dueUnchanged(call, twin);
        return this;
    }

    /** The same for addPlace and addProbe behind a typed text; but the buffer, empty here, is empty afterwards. */
    Run refusedText(String text, String call, String exception) {
        Run twin = again();
        twin.typeAll(text);
        twin.due(call, exception);
        dueUnchanged("text " + text + "; " + call, twin);
        return this;
    }

    private void dueUnchanged(String what, Run twin) {
        if (lookSoFar == null) {
            lookSoFar = new Look(this);
        }
        String difference = lookSoFar.differenceFrom(new Look(twin));
        check.due("what has changed after call " + twin.callCount() + ", " + what, "", () -> difference);
    }

    /** What the text buffer contains, by the calls so far. */
    String typed() {
        return typed.toString();
    }

    private void noteTyped(String call, Object answer) {
        if (call.startsWith("addPlace") || call.startsWith("addProbe")) {
            typed.setLength(0);
        } else if (call.startsWith("type ") && answer instanceof Integer) {
            typed.append(call.substring("type ".length()));
        }
    }
}
