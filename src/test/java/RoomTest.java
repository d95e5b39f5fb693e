import java.lang.management.ManagementFactory;

/**
 * What 512 calls make stays below the room of one run, 600,000 objects and arrays and 7.3 million
 * fields and elements: an object takes 16 bytes at least and an element one, so what stays below
 * the bytes that are due here has less than half of either.
 */
public final class RoomTest {
    private static final int MOST_CALLS = 512;
    private static final int CALLS_OF_FILL = 273;
    private static final long BYTES_DUE = 3_600_000;

    private static final Check check = new Check("room");

    /** A call that is made again and again. */
    private interface Asking {
        void ask(EventTracer x, int round);
    }

    public static void main(String[] args) {
        bytesOfFullRun((x, round) -> x.now());
        dueRoom("isConsistent", (x, round) -> x.isConsistent());
        dueRoom("causes", (x, round) -> x.causes(0, round % 60));
        dueRoom("causesByPairs", (x, round) -> x.causesByPairs(0, round % 60));
        dueRoom("merged", (x, round) -> x.merged(round % 48));
        dueRoom("fingerprint", (x, round) -> x.fingerprint());
        dueRoom("replay", (x, round) -> x.replay());
        dueRoom("matches", (x, round) -> x.matches(round % 6, round % 10));
        dueRoom("matchesByTable", (x, round) -> x.matchesByTable(round % 6, round % 10));
        dueRoom("spentByEvents", (x, round) -> x.spentByEvents(0));
        dueRoom("bound", (x, round) -> x.bound(0, 3));
        dueRoom("correctedTime", (x, round) -> x.correctedTime(round % 60));
        dueRoom("refused calls", (x, round) -> Check.answerOf(() -> x.addProbe(0)));
        check.end();
    }

    private static void dueRoom(String title, Asking asking) {
        long bytes = bytesOfFullRun(asking);
        check.due("bytes of a full run of " + title + " (" + bytes + ") below " + BYTES_DUE, true,
                () -> bytes < BYTES_DUE);
    }

    private static long bytesSoFar() {
        com.sun.management.ThreadMXBean threads = (com.sun.management.ThreadMXBean) ManagementFactory.getThreadMXBean();
        return threads.getCurrentThreadAllocatedBytes();
    }

    private static long bytesOfFullRun(Asking asking) {
        long before = bytesSoFar();
        EventTracer x = new EventTracer();
        fill(x);
        for (int round = 0; round < MOST_CALLS - CALLS_OF_FILL; round++) {
            asking.ask(x, round);
        }
        return bytesSoFar() - before;
    }

    private static void fill(EventTracer x) {
        x.addProcess(999);
        for (int i = 0; i < 10; i++) {
            for (int j = 0; j < 12; j++) {
                x.type(j == i + 2 ? 'b' : 'a');
            }
            x.addPlace();
        }
        for (int i = 0; i < 6; i++) {
            for (int j = 0; j < 12; j++) {
                x.type(j % 2 == 0 ? '*' : j == 11 ? 'b' : 'a');
            }
            x.addProbe(1);
        }
        for (int i = 0; i < 4; i++) {
            x.addProcessor(i, 16);
        }
        for (int i = 0; i < 20; i++) {
            x.send(i % 4);
            x.receive(i, (i + 1) % 4);
        }
        for (int i = 0; i < 20; i++) {
            x.hit(i % 4, 9, 0);
        }
    }
}
