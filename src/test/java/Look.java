import java.util.ArrayList;
import java.util.List;

/**
 * All that calls can tell of the state that a run has reached, also by what they do next. Each part
 * asks a new object that has had the same calls, so the run itself stays as it is, and no object
 * gets more than 512 calls.
 */
final class Look {
    private static final int PROCESSORS = 4;
    private static final int PLACES = 10;
    private static final int PROBES = 6;
    private static final int PROCESSES = 4;
    private static final int MESSAGES = 20;
    private static final int CAPACITY = 16;

    private final List<String> told = new ArrayList<>();
    private final Run seen;
    private Run asked;

    Look(Run seen) {
        this.seen = seen;
        figures();
        matches();
        ringsAndOrder();
        events();
        causesOfTheLast();
        replayAndMarks();
        textAsPlace();
        textAsProbe();
        goingOnWithMessages();
        goingOnWithHits();
        goingOnWithNewOnes();
    }

    /** The first line in which both differ, or nothing. */
    String differenceFrom(Look other) {
        for (int i = 0; i < Math.min(told.size(), other.told.size()); i++) {
            if (!told.get(i).equals(other.told.get(i))) {
                return told.get(i) + " became " + other.told.get(i);
            }
        }
        return told.size() == other.told.size() ? "" : "one tells more";
    }

    private void part(String title) {
        asked = seen.again();
        told.add(title);
    }

    private Object ask(String call) {
        Object answer = asked.answer(call);
        told.add(call + ": " + answer);
        return answer;
    }

    private int count(String call) {
        return ask(call) instanceof Integer number ? number : 0;
    }

    private void figures() {
        part("figures");
        for (String call : new String[] {"now", "events", "keptEvents", "dearest", "meanCost", "lostShare",
                "fingerprint", "isConsistent", "position"}) {
            ask(call);
        }
        for (int processor = 0; processor < PROCESSORS; processor++) {
            ask("kept " + processor);
            ask("lost " + processor);
            ask("gap " + processor);
        }
        clocks();
        costs();
    }

    private void clocks() {
        for (int processor = 0; processor < PROCESSORS; processor++) {
            ask("correction " + processor);
            for (int other = 0; other < PROCESSORS; other++) {
                ask("bound " + processor + " " + other);
            }
        }
    }

    private void costs() {
        for (int process = 0; process < PROCESSES; process++) {
            ask("spent " + process);
            ask("spentByEvents " + process);
            for (int probe = 0; probe < PROBES; probe++) {
                ask("isShed " + probe + " " + process);
            }
        }
    }

    private void matches() {
        part("matches");
        for (int probe = 0; probe < PROBES; probe++) {
            for (int place = 0; place < PLACES; place++) {
                ask("matches " + probe + " " + place);
                ask("matchesByTable " + probe + " " + place);
            }
        }
    }

    private void ringsAndOrder() {
        part("rings and order");
        for (int processor = 0; processor < PROCESSORS; processor++) {
            for (int index = 0; index <= CAPACITY; index++) {
                ask("keptAt " + processor + " " + index);
            }
        }
        int kept = count("keptEvents");
        for (int index = 0; index <= kept; index++) {
            ask("merged " + index);
        }
    }

    private void events() {
        part("events");
        int events = count("events");
        for (int event = 0; event <= events; event++) {
            ask("kind " + event);
            ask("localTime " + event);
            ask("processorOf " + event);
            ask("fired " + event);
            ask("correctedTime " + event);
        }
    }

    private void causesOfTheLast() {
        part("causes");
        int events = count("events");
        for (int other = Math.max(0, events - 3); other < events; other++) {
            causesOf(other, events);
        }
    }

    private void causesOf(int other, int events) {
        for (int event = 0; event < events; event++) {
            ask("causes " + event + " " + other);
            ask("causesByPairs " + event + " " + other);
        }
    }

    private void replayAndMarks() {
        part("replay and marks");
        replayToItsEnd();
        for (int place = 0; place < PLACES; place++) {
            ask("wish " + place + " true");
        }
        ask("replay");
        replayToItsEnd();
        for (int processor = 0; processor < PROCESSORS; processor++) {
            ask("mark " + processor);
            ask("gap " + processor);
        }
    }

    private void replayToItsEnd() {
        ask("position");
        while (ask("next") instanceof Integer) {
            ask("position");
        }
        ask("position");
    }

    /** If the text behind the run becomes a place, the same text is no new name afterwards. */
    private void textAsPlace() {
        part("text as a place");
        ask("addPlace");
        String text = seen.typed();
        for (int i = 0; i < text.length(); i++) {
            ask("type " + text.charAt(i));
        }
        ask("addPlace");
        for (int probe = 0; probe < PROBES; probe++) {
            for (int place = 0; place < PLACES; place++) {
                ask("matches " + probe + " " + place);
            }
        }
        for (int probe = 0; probe < PROBES; probe++) {
            ask("removeProbe " + probe);
        }
    }

    private void textAsProbe() {
        part("text as a probe");
        while (ask("type a") instanceof Integer) {
            ask("now");
        }
        ask("addProbe 50");
        for (int probe = 0; probe < PROBES; probe++) {
            for (int place = 0; place < PLACES; place++) {
                ask("matches " + probe + " " + place);
            }
        }
    }

    private void goingOnWithMessages() {
        part("going on with messages");
        for (int message = 0; message <= MESSAGES; message++) {
            for (int processor = PROCESSORS - 1; processor >= 0; processor--) {
                ask("receive " + message + " " + processor);
            }
        }
        clocks();
        ask("fingerprint");
        ask("isConsistent");
    }

    private void goingOnWithHits() {
        part("going on with hits");
        hitsOfAll();
        ask("pass 1");
        costs();
        ask("pass 99");
        costs();
        hitsOfAll();
        costs();
        while (ask("pass 100") instanceof Integer) {
            ask("now");
        }
        ask("dearest");
        ask("meanCost");
    }

    private void hitsOfAll() {
        for (int process = 0; process < PROCESSES; process++) {
            for (int place = 0; place < 3; place++) {
                ask("hit 0 " + place + " " + process);
            }
        }
    }

    private void goingOnWithNewOnes() {
        part("going on with new ones");
        ask("addProcessor 9 1");
        ask("addProcess 0");
        for (int processor = 0; processor < PROCESSORS; processor++) {
            ask("send " + processor);
        }
        int events = count("events");
        if (events > 0) {
            causesOf(events - 1, events);
        }
        ask("correctedTime " + (events - 1));
        ask("lost 0");
        ask("gap 0");
        ask("fingerprint");
    }
}
