import java.lang.reflect.Field;
import java.util.List;

/**
 * No calls can break the invariants of promise 43, so this breaks the state itself, by its private
 * fields: isConsistent has to see it. How the state is held is free, so where a field has another
 * name now there is nothing to break by it; that is told, and this test is to be brought up to date.
 */
public final class InvariantsTest {
    private static final Check check = new Check("invariants");

    /** Breaks a state by its private fields. */
    private interface Break {
        void on(EventTracer x) throws ReflectiveOperationException;
    }

    public static void main(String[] args) throws ReflectiveOperationException {
        dueSeen("a wrong sum", InvariantsTest::breakSum, "spent(0) and spentByEvents(0)", "9 10",
                x -> x.spent(0) + " " + x.spentByEvents(0));
        dueSeen("a wrong count of causes", InvariantsTest::breakCauses, "causes(1, 0) and causesByPairs(1, 0)",
                "true false",
                x -> x.causes(1, 0) + " " + x.causesByPairs(1, 0));
        dueSeen("a wrong order", InvariantsTest::breakOrder, "merged(0) and merged(1)", "1 0",
                x -> x.merged(0) + " " + x.merged(1));
        check.end();
    }

    /** A question about a tracer. */
    private interface Question {
        Object of(EventTracer x);
    }

    private static void dueSeen(String title, Break breaking, String asked, String want, Question question)
            throws ReflectiveOperationException {
        EventTracer x = withTwoHits();
        check.due("isConsistent before " + title, true, x::isConsistent);
        try {
            breaking.on(x);
        } catch (NoSuchFieldException exception) {
            System.out.println("not tried: " + title + ", since there is no field " + exception.getMessage());
            return;
        }
        check.due(asked + " with " + title, want, () -> question.of(x));
        check.due("isConsistent with " + title, false, x::isConsistent);
    }

    private static void breakSum(EventTracer x) throws ReflectiveOperationException {
        Object process = elementOf(x, "processes", 0);
        fieldOf(process, "spentInWindow").setInt(process, 9);
    }

    private static void breakCauses(EventTracer x) throws ReflectiveOperationException {
        Object first = elementOf(x, "events", 0);
        ((int[]) fieldOf(first, "causeCounts").get(first))[0] = 2;
    }

    private static void breakOrder(EventTracer x) throws ReflectiveOperationException {
        Object processor = elementOf(x, "processors", 0);
        int[] ring = (int[]) fieldOf(processor, "ring").get(processor);
        ring[0] = 1;
        ring[1] = 0;
    }

    private static EventTracer withTwoHits() {
        EventTracer x = new EventTracer();
        x.type('a');
        x.addPlace();
        x.type('?');
        x.addProbe(5);
        x.addProcessor(0, 4);
        x.addProcess(99);
        x.hit(0, 0, 0);
        x.hit(0, 0, 0);
        return x;
    }

    private static Object elementOf(EventTracer x, String list, int index) throws ReflectiveOperationException {
        return ((List<?>) fieldOf(x, list).get(x)).get(index);
    }

    private static Field fieldOf(Object object, String name) throws ReflectiveOperationException {
        Field field = object.getClass().getDeclaredField(name);
        field.setAccessible(true);
        return field;
    }
}
