import java.lang.management.ManagementFactory;

/**
 * What a run of 512 calls makes stays far below the room of one run, 600,000 objects and arrays:
 * at 16 bytes or more for each, the bytes that are due here are a small part of it.
 */
public final class RoomTest {
    private static final long BYTES_DUE = 200_000;

    private static final Check check = new Check("room");

    public static void main(String[] args) {
        bytesOfFullRun("to load the classes", 0);
        check.due("bytes of a run without many questions", true, () -> bytesOfFullRun("few", 0) < BYTES_DUE);
        check.due("bytes of a run with 200 checks", true, () -> bytesOfFullRun("checks", 200) < BYTES_DUE);
        check.end();
    }

    private static long bytesSoFar() {
        com.sun.management.ThreadMXBean threads = (com.sun.management.ThreadMXBean) ManagementFactory.getThreadMXBean();
        return threads.getCurrentThreadAllocatedBytes();
    }

    private static long bytesOfFullRun(String title, int checks) {
        long before = bytesSoFar();
        EventTracer x = new EventTracer();
        fill(x);
        for (int i = 0; i < checks; i++) {
            x.isConsistent();
            x.causesByPairs(0, 59);
            x.merged(i % 48);
            x.replay();
        }
        long bytes = bytesSoFar() - before;
        System.out.println("a full run (" + title + ") made " + bytes + " bytes");
        return bytes;
    }

    private static void fill(EventTracer x) {
        x.addProcess(999);
        for (int i = 0; i < 10; i++) {
            for (int j = 0; j < 12; j++) {
                x.type(j == i + 2 ? 'b' : 'a');
            }
            x.addPlace();
        }
        for (int i = 0; i < 6; i++) {
            for (int j = 0; j < 12; j++) {
                x.type(j % 2 == 0 ? '*' : j == 11 ? 'b' : 'a');
            }
            x.addProbe(1);
        }
        for (int i = 0; i < 4; i++) {
            x.addProcessor(i, 16);
        }
        for (int i = 0; i < 20; i++) {
            x.send(i % 4);
            x.receive(i, (i + 1) % 4);
        }
        for (int i = 0; i < 20; i++) {
            x.hit(i % 4, 9, 0);
        }
    }
}
