import java.lang.reflect.Field;
import java.util.List;

/** No calls can break the invariants, so this breaks the state itself: isConsistent has to see it. */
public final class InvariantsTest {
    private static final Check check = new Check("invariants");

    public static void main(String[] args) throws ReflectiveOperationException {
        EventTracer sums = withTwoHits();
        check.due("isConsistent before", true, sums::isConsistent);
        fieldOf(elementOf(sums, "processes", 0), "spentInWindow").setInt(elementOf(sums, "processes", 0), 9);
        check.due("the sums differ", "9 10", () -> sums.spent(0) + " " + sums.spentByEvents(0));
        check.due("isConsistent with a wrong sum", false, sums::isConsistent);

        EventTracer causes = withTwoHits();
        Object first = elementOf(causes, "events", 0);
        ((int[]) fieldOf(first, "causeCounts").get(first))[0] = 2;
        check.due("the causes differ", "true false",
                () -> causes.causes(1, 0) + " " + causes.causesByPairs(1, 0));
        check.due("isConsistent with a wrong count", false, causes::isConsistent);
        check.end();
    }

    private static EventTracer withTwoHits() {
        EventTracer x = new EventTracer();
        x.type('a');
        x.addPlace();
        x.type('?');
        x.addProbe(5);
        x.addProcessor(0, 4);
        x.addProcess(99);
        x.hit(0, 0, 0);
        x.hit(0, 0, 0);
        return x;
    }

    private static Object elementOf(EventTracer x, String list, int index) throws ReflectiveOperationException {
        return ((List<?>) fieldOf(x, list).get(x)).get(index);
    }

    private static Field fieldOf(Object object, String name) throws ReflectiveOperationException {
        Field field = object.getClass().getDeclaredField(name);
        field.setAccessible(true);
        return field;
    }
}
