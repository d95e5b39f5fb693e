import java.lang.reflect.Field;
import java.lang.reflect.Member;
import java.lang.reflect.Method;
import java.lang.reflect.Modifier;
import java.util.Arrays;
import java.util.TreeSet;
import java.util.stream.Collectors;

/** The public face of the class is the document's and nothing beside it. */
public final class FaceTest {
    private static final Check check = new Check("face");

    private static final String[] FACE = {
        "int addProcessor(int, int) throws IllegalArgumentException, IllegalStateException",
        "int now()",
        "int pass(int) throws IllegalArgumentException, IllegalStateException",
        "int type(char) throws IllegalArgumentException, IllegalStateException",
        "int addPlace() throws IllegalArgumentException, IllegalStateException",
        "int addProbe(int) throws IllegalArgumentException, IllegalStateException",
        "int removeProbe(int) throws IndexOutOfBoundsException, IllegalStateException",
        "boolean matches(int, int) throws IndexOutOfBoundsException",
        "boolean matchesByTable(int, int) throws IndexOutOfBoundsException",
        "int addProcess(int) throws IllegalArgumentException, IllegalStateException",
        "int hit(int, int, int) throws IndexOutOfBoundsException, IllegalStateException",
        "int send(int) throws IndexOutOfBoundsException, IllegalStateException",
        "int receive(int, int) throws IndexOutOfBoundsException, IllegalStateException, UnsupportedOperationException",
        "int spent(int) throws IndexOutOfBoundsException",
        "int spentByEvents(int) throws IndexOutOfBoundsException",
        "boolean isShed(int, int) throws IndexOutOfBoundsException",
        "int dearest() throws NoSuchElementException",
        "int events()",
        "char kind(int) throws IndexOutOfBoundsException",
        "int localTime(int) throws IndexOutOfBoundsException",
        "int processorOf(int) throws IndexOutOfBoundsException",
        "int fired(int) throws IndexOutOfBoundsException, NoSuchElementException",
        "int kept(int) throws IndexOutOfBoundsException",
        "int keptAt(int, int) throws IndexOutOfBoundsException, NoSuchElementException",
        "int lost(int) throws IndexOutOfBoundsException",
        "int mark(int) throws IndexOutOfBoundsException",
        "int gap(int) throws IndexOutOfBoundsException",
        "int bound(int, int) throws IndexOutOfBoundsException, NoSuchElementException",
        "int correction(int) throws IndexOutOfBoundsException",
        "int correctedTime(int) throws IndexOutOfBoundsException",
        "boolean causes(int, int) throws IndexOutOfBoundsException",
        "boolean causesByPairs(int, int) throws IndexOutOfBoundsException",
        "int keptEvents()",
        "int merged(int) throws IndexOutOfBoundsException",
        "boolean wish(int, boolean) throws IndexOutOfBoundsException",
        "int replay()",
        "int next() throws IllegalStateException, NoSuchElementException",
        "int position() throws IllegalStateException",
        "double meanCost() throws ArithmeticException",
        "float lostShare() throws ArithmeticException",
        "long fingerprint()",
        "boolean isConsistent()",
    };

    public static void main(String[] args) {
        check.due("the class is public and final", Modifier.PUBLIC | Modifier.FINAL,
                () -> EventTracer.class.getModifiers());
        check.due("its public methods", new TreeSet<>(Arrays.asList(FACE)), FaceTest::publicMethods);
        check.due("its constructors", "[public EventTracer()]",
                () -> Arrays.toString(EventTracer.class.getDeclaredConstructors()));
        check.due("members that are neither public nor private", "", FaceTest::membersBetween);
        check.due("fields that are not private", "", FaceTest::openFields);
        check.due("private methods with the name of a public one", "", FaceTest::hiddenNamesakes);
        check.due("classes inside that are public or protected", "", FaceTest::openClasses);
        check.end();
    }

    private static TreeSet<String> publicMethods() {
        return Arrays.stream(EventTracer.class.getDeclaredMethods())
                .filter(method -> Modifier.isPublic(method.getModifiers()))
                .map(FaceTest::describe)
                .collect(Collectors.toCollection(TreeSet::new));
    }

    private static String describe(Method method) {
        String exceptions = names(method.getExceptionTypes());
        return method.getReturnType().getSimpleName() + " " + method.getName()
                + "(" + names(method.getParameterTypes()) + ")"
                + (exceptions.isEmpty() ? "" : " throws " + exceptions);
    }

    private static String names(Class<?>[] types) {
        return Arrays.stream(types).map(Class::getSimpleName).collect(Collectors.joining(", "));
    }

    private static String membersBetween() {
        return Arrays.stream(EventTracer.class.getDeclaredMethods())
                .filter(method -> !Modifier.isPublic(method.getModifiers()))
                .filter(method -> !Modifier.isPrivate(method.getModifiers()))
                .map(Member::getName).collect(Collectors.joining(" "));
    }

    private static String openFields() {
        return Arrays.stream(EventTracer.class.getDeclaredFields())
                .filter(field -> !Modifier.isPrivate(field.getModifiers()))
                .map(Field::getName).collect(Collectors.joining(" "));
    }

    private static String hiddenNamesakes() {
        TreeSet<String> faceNames = Arrays.stream(EventTracer.class.getDeclaredMethods())
                .filter(method -> Modifier.isPublic(method.getModifiers()))
                .map(Method::getName).collect(Collectors.toCollection(TreeSet::new));
        return Arrays.stream(EventTracer.class.getDeclaredMethods())
                .filter(method -> !Modifier.isPublic(method.getModifiers()))
                .map(Method::getName).filter(faceNames::contains).collect(Collectors.joining(" "));
    }

    private static String openClasses() {
        return Arrays.stream(EventTracer.class.getDeclaredClasses())
                .filter(inside -> (inside.getModifiers() & (Modifier.PUBLIC | Modifier.PROTECTED)) != 0)
                .map(Class::getSimpleName).collect(Collectors.joining(" "));
    }
}
