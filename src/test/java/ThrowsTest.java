/**
 * For each parameter's range and each 'Throws' row of the document: the last value that is allowed
 * and the first that is not on each side, the refused call, nothing changed after it, and the first
 * of two exceptions where two conditions hold at once.
 */
public final class ThrowsTest {
    private static final Check check = new Check("throws");
    private static final String FAR = "2147483647 -2147483648";
    private static final String FIRST =
            "If several conditions for an exception hold, the exception that is listed first is thrown";

    public static void main(String[] args) {
        nothingIsThere();
        addProcessor();
        pass();
        type();
        addPlace();
        addPlaceAtTheLimit();
        addProbe();
        addProbeAtTheLimit();
        removeProbe();
        matchesBothWays();
        addProcess();
        hit();
        hitAt60Events();
        send();
        sendAtTheLimits();
        receive();
        receiveAt60Events();
        processesAndProbes();
        dearest();
        eventsAndTheirParts();
        fired();
        processors();
        keptAt();
        bound();
        causesBothWays();
        merged();
        wish();
        nextAndPosition();
        nextAtTheEnd();
        meanCost();
        lostShare();
        check.end();
    }

    private static void promise(int number, String sentence) {
        check.about("Promise " + number + ": " + sentence);
    }

    /** Each of the numbers is refused where the call has "#". */
    private static void eachRefused(Run x, String call, String exception, String numbers) {
        for (String number : numbers.split(" ")) {
            x.refused(call.replace("#", number), exception);
        }
    }

    private static Run start() {
        return new Run(check);
    }

    private static Run rich() {
        return States.rich(check);
    }

    private static Run full() {
        return States.full(check);
    }

    // ---- promise 1

    private static void nothingIsThere() {
        promise(1, "without processors, places, probes, processes and events");
        Run x = start();
        for (String call : new String[] {"removeProbe 0", "matches 0 0", "matchesByTable 0 0", "hit 0 0 0", "send 0",
                "receive 0 0", "spent 0", "spentByEvents 0", "isShed 0 0", "kind 0", "localTime 0", "processorOf 0",
                "fired 0", "kept 0", "keptAt 0 0", "lost 0", "mark 0", "gap 0", "bound 0 0", "bound 0 1",
                "correction 0", "correctedTime 0", "causes 0 0", "causesByPairs 0 0", "merged 0", "wish 0 true"}) {
            x.refused(call, Run.INDEX);
        }
        x.refused("dearest", Run.ELEMENT).refused("next", Run.STATE).refused("position", Run.STATE);
        x.refused("meanCost", Run.ARITHMETIC).refused("lostShare", Run.ARITHMETIC);
        x.refused("addPlace", Run.ARGUMENT).refused("addProbe 1", Run.ARGUMENT);
    }

    // ---- promise 2

    private static void addProcessor() {
        promise(2, "the offset of its clock, 0 to 500; the capacity of its ring, 1 to 16");
        Run x = rich();
        eachRefused(x, "addProcessor # 1", Run.ARGUMENT, "-1 501 " + FAR);
        eachRefused(x, "addProcessor # 16", Run.ARGUMENT, "-1 501 " + FAR);
        eachRefused(x, "addProcessor 0 #", Run.ARGUMENT, "0 17 -1 " + FAR);
        eachRefused(x, "addProcessor 500 #", Run.ARGUMENT, "0 17 -1 " + FAR);
        x.refused("addProcessor -1 0", Run.ARGUMENT).refused("addProcessor 501 17", Run.ARGUMENT);
        Run y = start();
        y.due("addProcessor 0 1", 0).due("addProcessor 0 16", 1).due("addProcessor 500 1", 2);
        promise(2, "IllegalStateException if there are 4 processors");
        y.due("addProcessor 500 16", 3);
        y.refused("addProcessor 500 16", Run.STATE).refused("addProcessor 0 1", Run.STATE);
        full().refused("addProcessor 0 1", Run.STATE);
        check.about(FIRST);
        eachRefused(y, "addProcessor # 1", Run.ARGUMENT, "-1 501 " + FAR);
        eachRefused(y, "addProcessor 0 #", Run.ARGUMENT, "0 17 " + FAR);
    }

    // ---- promise 4

    private static void pass() {
        promise(4, "by how much the time increases, 1 to 200");
        eachRefused(rich(), "pass #", Run.ARGUMENT, "0 201 -1 " + FAR);
        start().due("pass 1", 1).due("pass 200", 201).due("pass 199", 400).due("now", 400);
        promise(4, "IllegalStateException if the time would be greater than 1000");
        start().times(4, "pass 200").due("pass 200", 1000).due("now", 1000);
        Run x = rich().times(3, "pass 200").does("pass 136");
        x.does("hit 0 0 0; hit 0 0 0").dueAll("now; spent 0; isShed 0 0", "801 50 true");
        eachRefused(x, "pass #", Run.STATE, "200");
        x.due("pass 199", 1000);
        eachRefused(x, "pass #", Run.STATE, "1 200");
        Run y = start().times(4, "pass 200").does("pass 199");
        eachRefused(y, "pass #", Run.STATE, "2 100");
        y.due("pass 1", 1000);
        check.about(FIRST);
        eachRefused(x, "pass #", Run.ARGUMENT, "0 201 -1 " + FAR);
    }

    // ---- promise 5

    private static void type() {
        promise(5, "IllegalArgumentException if the character is neither a letter from 'a' to 'z' nor '.', '?' or '*'");
        Run x = rich();
        // The neighbours of the allowed ones, capital letters, digits, and letters beyond 'z'.
        for (String wrong : "` { - / > @ ) + A Z 0 9 , ; _ 000 10 32 127 228 255 353 65377 65535".split(" ")) {
            x.refused("type " + wrong, Run.ARGUMENT);
        }
        Run y = start();
        int typed = 0;
        for (String right : "a b m y z . ? *".split(" ")) {
            typed++;
            y.due("type " + right, typed);
        }
        promise(5, "IllegalStateException if the buffer contains 12 characters");
        y.does("text abc").due("type .", 12);
        for (String right : "a z . ? *".split(" ")) {
            y.refused("type " + right, Run.STATE);
        }
        rich().does("text ..........").refused("type a", Run.STATE);
        check.about(FIRST);
        y.refused("type A", Run.ARGUMENT).refused("type {", Run.ARGUMENT).refused("type 000", Run.ARGUMENT);
    }

    // ---- promise 6

    private static void addPlace() {
        promise(6, "IllegalArgumentException if the content is empty");
        Run x = States.rich(check, "");
        x.refused("addPlace", Run.ARGUMENT);
        promise(6, "IllegalArgumentException if the content contains '?' or '*'");
        for (String text : "? * a? a* ?a *a a?a a*a b? ........... ...........? ...........* io.*".split(" ")) {
            if (text.indexOf('?') >= 0 || text.indexOf('*') >= 0) {
                x.refusedText(text, "addPlace", Run.ARGUMENT);
            }
        }
        promise(6, "IllegalArgumentException if the content is the name of a place");
        x.refusedText("b", "addPlace", Run.ARGUMENT).refusedText("io.a", "addPlace", Run.ARGUMENT);
        x.refusedText("c.c", "addPlace", Run.ARGUMENT);
        Run y = start().does("place abcdefghijkl");
        y.refusedText("abcdefghijkl", "addPlace", Run.ARGUMENT);
        y.does("text abcdefghijkm").due("addPlace", 1).does("text bbcdefghijkl").due("addPlace", 2);
        y.does("text abcdefghijk").due("addPlace", 3).does("text a").due("addPlace", 4).does("text aa")
                .due("addPlace", 5);
        promise(6, "The buffer is empty afterwards, also if an exception is thrown");
        Run z = start().does("text a").due("addPlace", 0).due("addPlace", Run.ARGUMENT).due("type b", 1);
        z.due("addPlace", 1).does("text b").due("addPlace", Run.ARGUMENT).due("type c", 1).due("addPlace", 2);
        z.does("text c?").due("addPlace", Run.ARGUMENT).due("type d", 1).due("addPlace", 3);
        z.does("text abcdefghijk*").due("addPlace", Run.ARGUMENT).due("addPlace", Run.ARGUMENT).due("type a", 1);
    }

    private static void addPlaceAtTheLimit() {
        promise(6, "IllegalStateException if there are 10 places");
        Run x = start().does("place a; place b; place c; place d; place e; place f; place g; place h; place i");
        x.does("text j").due("addPlace", 9);
        x.refusedText("k", "addPlace", Run.STATE).refusedText("abcdefghijkl", "addPlace", Run.STATE);
        full().refusedText("k", "addPlace", Run.STATE);
        promise(6, "The buffer is empty afterwards, also if an exception is thrown (at 10 places)");
        x.does("text k").due("addPlace", Run.STATE).due("type k", 1).due("type l", 2).due("addPlace", Run.STATE);
        check.about(FIRST);
        x.refused("addPlace", Run.ARGUMENT).refusedText("a", "addPlace", Run.ARGUMENT);
        x.refusedText("j", "addPlace", Run.ARGUMENT).refusedText("k?", "addPlace", Run.ARGUMENT);
        x.refusedText("*", "addPlace", Run.ARGUMENT);
    }

    // ---- promise 7

    private static void addProbe() {
        promise(7, "the cost, 1 to 50");
        Run x = States.rich(check, "");
        for (String cost : ("0 51 -1 " + FAR).split(" ")) {
            x.refusedText("a", "addProbe " + cost, Run.ARGUMENT);
            x.refusedText("?*.", "addProbe " + cost, Run.ARGUMENT);
        }
        start().does("text a").due("addProbe 1", 0).does("text a").due("addProbe 50", 1);
        promise(7, "IllegalArgumentException if the content is empty");
        eachRefused(x, "addProbe #", Run.ARGUMENT, "1 25 50 0 51");
        promise(7, "The buffer is empty afterwards, also if an exception is thrown");
        Run y = start().does("text a").due("addProbe 1", 0).due("addProbe 1", Run.ARGUMENT).due("type b", 1);
        y.due("addProbe 51", Run.ARGUMENT).due("addProbe 50", Run.ARGUMENT).due("type c", 1).due("addProbe 50", 1);
        y.does("text ************").due("addProbe 0", Run.ARGUMENT).due("type *", 1).due("addProbe 1", 2);
    }

    private static void addProbeAtTheLimit() {
        promise(7, "IllegalStateException if 6 probes were added");
        Run x = start().does("probe a 1; probe a 1; probe b 50; probe * 3; probe ? 4").does("text a")
                .due("addProbe 5", 5);
        x.refusedText("a", "addProbe 1", Run.STATE).refusedText("????????????", "addProbe 50", Run.STATE);
        x.does("removeProbe 5; removeProbe 0");
        x.refusedText("a", "addProbe 1", Run.STATE);
        full().refusedText("*", "addProbe 50", Run.STATE);
        promise(7, "The buffer is empty afterwards, also if an exception is thrown (at 6 probes)");
        x.does("text a").due("addProbe 1", Run.STATE).due("type b", 1).due("addProbe 1", Run.STATE);
        check.about(FIRST);
        eachRefused(x, "addProbe #", Run.ARGUMENT, "1 50 0 51");
        x.refusedText("a", "addProbe 0", Run.ARGUMENT).refusedText("a", "addProbe 51", Run.ARGUMENT);
    }

    // ---- promise 8

    private static void removeProbe() {
        promise(8, "IndexOutOfBoundsException if there is no such probe");
        eachRefused(rich(), "removeProbe #", Run.INDEX, "-1 4 5 6 " + FAR);
        Run x = full();
        eachRefused(x, "removeProbe #", Run.INDEX, "-1 6 7 " + FAR);
        x.due("removeProbe 0", 5).due("removeProbe 5", 4);
        promise(8, "IllegalStateException if it was removed before");
        rich().refused("removeProbe 3", Run.STATE);
        x.refused("removeProbe 0", Run.STATE).refused("removeProbe 5", Run.STATE);
        x.due("removeProbe 1", 3).due("removeProbe 2", 2).due("removeProbe 3", 1).due("removeProbe 4", 0);
        eachRefused(x, "removeProbe #", Run.STATE, "0 1 2 3 4 5");
        eachRefused(x, "removeProbe #", Run.INDEX, "-1 6");
    }

    // ---- promises 9 and 10

    private static void matchesBothWays() {
        for (int way = 9; way <= 10; way++) {
            promise(way, "IndexOutOfBoundsException if there is no such probe or no such place");
            String call = way == 9 ? "matches" : "matchesByTable";
            Run x = rich();
            eachRefused(x, call + " # 0", Run.INDEX, "-1 4 6 " + FAR);
            eachRefused(x, call + " 1 #", Run.INDEX, "-1 3 10 " + FAR);
            x.refused(call + " 4 3", Run.INDEX).refused(call + " -1 -1", Run.INDEX);
            x.due(call + " 0 0", true).due(call + " 3 1", true).due(call + " 2 2", true).due(call + " 3 2", false);
            Run y = full();
            eachRefused(y, call + " # 9", Run.INDEX, "-1 6");
            eachRefused(y, call + " 5 #", Run.INDEX, "-1 10");
            y.due(call + " 0 0", true).due(call + " 5 9", false).due(call + " 4 9", true);
        }
    }

    // ---- promise 11

    private static void addProcess() {
        promise(11, "its budget, 0 to 999");
        eachRefused(rich(), "addProcess #", Run.ARGUMENT, "-1 1000 " + FAR);
        Run x = start().due("addProcess 0", 0).due("addProcess 999", 1).due("addProcess 1", 2);
        promise(11, "IllegalStateException if there are 4 processes");
        x.due("addProcess 998", 3);
        eachRefused(x, "addProcess #", Run.STATE, "0 500 999");
        full().refused("addProcess 0", Run.STATE);
        check.about(FIRST);
        eachRefused(x, "addProcess #", Run.ARGUMENT, "-1 1000 " + FAR);
    }

    // ---- promise 12

    private static void hit() {
        promise(12, "IndexOutOfBoundsException if there is no such processor, no such place or no such process");
        Run x = rich();
        eachRefused(x, "hit # 0 1", Run.INDEX, "-1 3 4 " + FAR);
        eachRefused(x, "hit 0 # 1", Run.INDEX, "-1 3 10 " + FAR);
        eachRefused(x, "hit 0 0 #", Run.INDEX, "-1 2 4 " + FAR);
        x.refused("hit 3 3 2", Run.INDEX).refused("hit -1 -1 -1", Run.INDEX);
        x.due("hit 2 2 1", 2);
        Run y = start().does("addProcessor 0 1; addProcessor 0 1; addProcessor 0 1; addProcessor 0 1");
        y.does("place a; place b; place c; place d; place e; place f; place g; place h; place i; place j; probe j 1");
        y.does("addProcess 1; addProcess 1; addProcess 1; addProcess 1");
        eachRefused(y, "hit # 9 3", Run.INDEX, "-1 4");
        eachRefused(y, "hit 3 # 3", Run.INDEX, "-1 10");
        eachRefused(y, "hit 3 9 #", Run.INDEX, "-1 4");
        y.due("hit 3 9 3", 1).due("hit 0 0 0", 0);
    }

    private static void hitAt60Events() {
        promise(12, "IllegalStateException if there are 60 events, whether a probe would fire or not");
        Run x = States.withPairs(check, 15).times(29, "hit 1 0 0");
        x.dueAll("events", "59").due("hit 0 1 0", 0).due("events", 59);
        x.due("hit 0 0 0", 1).due("events", 60);
        x.refused("hit 0 0 0", Run.STATE).refused("hit 0 1 0", Run.STATE).refused("hit 1 0 1", Run.STATE);
        x.does("pass 100");
        x.refused("hit 0 0 1", Run.STATE);
        full().refused("hit 3 9 3", Run.STATE);
        check.about(FIRST);
        eachRefused(x, "hit # 0 0", Run.INDEX, "-1 2");
        eachRefused(x, "hit 0 # 0", Run.INDEX, "-1 2");
        eachRefused(x, "hit 0 0 #", Run.INDEX, "-1 2");
    }

    // ---- promise 13

    private static void send() {
        promise(13, "IndexOutOfBoundsException if there is no such processor");
        Run x = rich();
        eachRefused(x, "send #", Run.INDEX, "-1 3 4 " + FAR);
        x.due("send 2", 5).due("send 0", 6);
        start().times(4, "addProcessor 0 1").due("send 3", 0).refused("send 4", Run.INDEX);
    }

    private static void sendAtTheLimits() {
        promise(13, "IllegalStateException if there are 20 messages");
        Run x = States.withPairs(check, 19);
        x.dueAll("events", "38").due("send 1", 19);
        x.refused("send 0", Run.STATE).refused("send 1", Run.STATE);
        promise(13, "IllegalStateException if there are 60 events");
        Run y = States.withPairs(check, 10).times(39, "hit 1 0 0");
        y.dueAll("events", "59").due("send 1", 10).due("events", 60);
        y.refused("send 0", Run.STATE).refused("send 1", Run.STATE);
        full().refused("send 0", Run.STATE);
        check.about(FIRST);
        eachRefused(x, "send #", Run.INDEX, "-1 2");
        eachRefused(y, "send #", Run.INDEX, "-1 2");
        eachRefused(full(), "send #", Run.INDEX, "-1 4");
    }

    // ---- promise 14

    private static void receive() {
        promise(14, "IndexOutOfBoundsException if there is no such message or no such processor");
        Run x = rich();
        eachRefused(x, "receive # 0", Run.INDEX, "-1 5 20 " + FAR);
        eachRefused(x, "receive 1 #", Run.INDEX, "-1 3 4 " + FAR);
        x.refused("receive 5 3", Run.INDEX);
        promise(14, "IllegalStateException if it was received before");
        x.refused("receive 0 1", Run.STATE).refused("receive 0 2", Run.STATE).refused("receive 2 0", Run.STATE);
        promise(14, "UnsupportedOperationException if it was sent from this processor");
        x.refused("receive 1 1", Run.UNSUPPORTED).refused("receive 3 0", Run.UNSUPPORTED);
        x.refused("receive 4 2", Run.UNSUPPORTED);
        check.about(FIRST);
        x.refused("receive 0 0", Run.STATE).refused("receive 2 2", Run.STATE);
        x.refused("receive 0 3", Run.INDEX).refused("receive 0 -1", Run.INDEX);
        promise(14, "Receives a message on a processor");
        x.due("receive 4 0", 12).due("receive 1 2", 13).due("receive 3 1", 14);
    }

    private static void receiveAt60Events() {
        promise(14, "IllegalStateException if there are 60 events");
        Run x = States.withPairs(check, 19).does("exchange 1 0 0").times(19, "hit 1 0 0");
        x.dueAll("events", "59").due("receive 18 1", 59).due("events", 60);
        x.refused("receive 17 1", Run.STATE).refused("receive 0 1", Run.STATE);
        check.about(FIRST);
        x.refused("receive 17 0", Run.STATE).refused("receive 18 0", Run.STATE).refused("receive 19 1", Run.STATE);
        eachRefused(x, "receive # 1", Run.INDEX, "-1 20");
        eachRefused(x, "receive 17 #", Run.INDEX, "-1 2");
        eachRefused(full(), "receive 19 #", Run.INDEX, "-1 4");
    }

    // ---- promises 15 to 17

    private static void processesAndProbes() {
        for (String call : new String[] {"spent", "spentByEvents"}) {
            promise(call.equals("spent") ? 15 : 16, "IndexOutOfBoundsException if there is no such process");
            eachRefused(rich(), call + " #", Run.INDEX, "-1 2 4 " + FAR);
            eachRefused(full(), call + " #", Run.INDEX, "-1 4 " + FAR);
        }
        promise(16, "Returns the same sum, the last process included");
        rich().dueAll("spent 1; spentByEvents 1; spent 0; spentByEvents 0", "42 42 50 50");
        full().dueAll("spent 2; spentByEvents 2; spent 3; spentByEvents 3; spent 0", "0 0 147 147 99");
        promise(17, "IndexOutOfBoundsException if there is no such probe or no such process");
        Run x = rich();
        eachRefused(x, "isShed # 0", Run.INDEX, "-1 4 6 " + FAR);
        eachRefused(x, "isShed 0 #", Run.INDEX, "-1 2 4 " + FAR);
        x.dueAll("isShed 0 0; isShed 3 1; isShed 0 1", "true false false");
        eachRefused(full(), "isShed # 3", Run.INDEX, "-1 6");
        eachRefused(full(), "isShed 5 #", Run.INDEX, "-1 4");
        full().due("isShed 5 3", false);
    }

    // ---- promise 18

    private static void dearest() {
        promise(18, "NoSuchElementException if no probe has fired");
        Run x = start().does("addProcessor 0 1; place a; place b; addProcess 9").refused("dearest", Run.ELEMENT);
        x.does("probe b 1; send 0; hit 0 0 0").refused("dearest", Run.ELEMENT);
        x.does("hit 0 1 0").due("dearest", 0);
    }

    // ---- promises 19 to 23, and 31

    private static void eventsAndTheirParts() {
        String[] calls = {"kind", "localTime", "processorOf", "fired", "correctedTime"};
        int[] promises = {20, 21, 22, 23, 31};
        for (int i = 0; i < calls.length; i++) {
            promise(promises[i], "IndexOutOfBoundsException if there is no such event");
            eachRefused(rich(), calls[i] + " #", Run.INDEX, "-1 12 13 " + FAR);
            eachRefused(full(), calls[i] + " #", Run.INDEX, "-1 60 61 " + FAR);
        }
        promise(19, "Returns the number of events, lost ones included; the last one has the number below");
        rich().dueAll("events; kind 11; kind 10; kind 9; fired 9; kind 0", "12 s s h 2 h");
        full().dueAll("events; kind 59; kind 0; processorOf 59; localTime 0; localTime 59", "60 h s 3 0 35");
    }

    private static void fired() {
        promise(23, "NoSuchElementException if the event is not a hit");
        Run x = rich();
        eachRefused(x, "fired #", Run.ELEMENT, "1 3 4 6 7 10 11");
        x.dueAll("kind 1; kind 3; kind 4; kind 6; kind 7; kind 10; kind 11", "s r s s r s s");
        eachRefused(full(), "fired #", Run.ELEMENT, "0 1 39");
        full().due("fired 40", 23);
    }

    // ---- promises 24 to 28, and 30

    private static void processors() {
        String[] calls = {"kept", "lost", "mark", "gap", "correction"};
        int[] promises = {24, 26, 27, 28, 30};
        for (int i = 0; i < calls.length; i++) {
            promise(promises[i], "IndexOutOfBoundsException if there is no such processor");
            eachRefused(rich(), calls[i] + " #", Run.INDEX, "-1 3 4 " + FAR);
            eachRefused(full(), calls[i] + " #", Run.INDEX, "-1 4 5 " + FAR);
        }
        promise(24, "Returns the number of events in the ring of a processor, the last one included");
        full().dueAll("kept 3; lost 3; gap 3; mark 3; kept 0; lost 0", "1 14 14 15 15 0");
    }

    private static void keptAt() {
        promise(25, "IndexOutOfBoundsException if there is no such processor");
        Run x = rich();
        eachRefused(x, "keptAt # 0", Run.INDEX, "-1 3 4 " + FAR);
        eachRefused(full(), "keptAt # 0", Run.INDEX, "-1 4 " + FAR);
        promise(25, "NoSuchElementException if there is no such index");
        eachRefused(x, "keptAt 0 #", Run.ELEMENT, "-1 2 3 16 " + FAR);
        x.dueAll("kept 0; keptAt 0 0; keptAt 0 1; kept 1; keptAt 1 2", "2 9 10 3 4");
        eachRefused(full(), "keptAt 3 #", Run.ELEMENT, "-1 1 16");
        eachRefused(start().does("addProcessor 0 1"), "keptAt 0 #", Run.ELEMENT, "-1 0 1");
        Run y = start().does("addProcessor 0 16").times(15, "send 0");
        y.due("keptAt 0 14", 14).refused("keptAt 0 15", Run.ELEMENT);
        y.times(5, "send 0").dueAll("keptAt 0 0; keptAt 0 15", "4 19").refused("keptAt 0 16", Run.ELEMENT);
        check.about(FIRST);
        eachRefused(x, "keptAt # -1", Run.INDEX, "-1 3");
        eachRefused(x, "keptAt # 16", Run.INDEX, "-1 3");
    }

    // ---- promise 29

    private static void bound() {
        promise(29, "IndexOutOfBoundsException if there is no such processor, for either");
        Run x = rich();
        eachRefused(x, "bound # 0", Run.INDEX, "-1 3 4 " + FAR);
        eachRefused(x, "bound 0 #", Run.INDEX, "-1 3 4 " + FAR);
        eachRefused(full(), "bound # 3", Run.INDEX, "-1 4");
        eachRefused(full(), "bound 3 #", Run.INDEX, "-1 4");
        promise(29, "NoSuchElementException if both are the same");
        x.refused("bound 0 0", Run.ELEMENT).refused("bound 2 2", Run.ELEMENT);
        eachRefused(full(), "bound # #", Run.ELEMENT, "0 3");
        promise(29, "NoSuchElementException if there is no bound");
        x.refused("bound 0 2", Run.ELEMENT).refused("bound 1 0", Run.ELEMENT).refused("bound 1 2", Run.ELEMENT);
        x.dueAll("bound 0 1; bound 2 0; bound 2 1", "-5 -430 -435");
        check.about(FIRST);
        eachRefused(x, "bound # #", Run.INDEX, "-1 3 " + FAR);
    }

    // ---- promises 32 and 33

    private static void causesBothWays() {
        for (int way = 32; way <= 33; way++) {
            promise(way, "IndexOutOfBoundsException if there is no such event, for either");
            String call = way == 32 ? "causes" : "causesByPairs";
            Run x = rich();
            eachRefused(x, call + " # 0", Run.INDEX, "-1 12 " + FAR);
            eachRefused(x, call + " 0 #", Run.INDEX, "-1 12 " + FAR);
            eachRefused(x, call + " # #", Run.INDEX, "-1 12 " + FAR);
            x.due(call + " 0 10", true).due(call + " 5 11", true).due(call + " 11 11", false);
            eachRefused(full(), call + " # 59", Run.INDEX, "-1 60");
            eachRefused(full(), call + " 59 #", Run.INDEX, "-1 60");
            full().due(call + " 0 59", true).due(call + " 59 0", false).due(call + " 59 59", false);
        }
    }

    // ---- promise 35

    private static void merged() {
        promise(35, "IndexOutOfBoundsException if there is no such index");
        Run x = rich();
        x.due("keptEvents", 8);
        eachRefused(x, "merged #", Run.INDEX, "-1 8 9 60 " + FAR);
        start().does("addProcessor 0 16").refused("merged 0", Run.INDEX);
        Run y = start().times(4, "addProcessor 0 16").does("place a; probe a 1; addProcess 999");
        y.times(15, "hit 0 0 0").times(15, "hit 1 0 0").times(15, "hit 2 0 0").times(15, "hit 3 0 0");
        y.dueAll("keptEvents; merged 0; merged 59", "60 0 59");
        eachRefused(y, "merged #", Run.INDEX, "-1 60");
    }

    // ---- promise 36

    private static void wish() {
        promise(36, "IndexOutOfBoundsException if there is no such place");
        for (String wished : new String[] {"true", "false"}) {
            eachRefused(rich(), "wish # " + wished, Run.INDEX, "-1 3 10 " + FAR);
            eachRefused(full(), "wish # " + wished, Run.INDEX, "-1 10 " + FAR);
        }
        full().due("wish 9 true", false).due("wish 9 true", true).due("wish 0 false", false);
    }

    // ---- promises 38 and 39

    private static void nextAndPosition() {
        promise(38, "IllegalStateException if no replay was started");
        Run x = States.withPairs(check, 2).does("wish 0 true");
        x.refused("next", Run.STATE);
        promise(39, "IllegalStateException if no replay was started");
        x.refused("position", Run.STATE);
        x.due("replay", 4).due("position", 0).due("next", 1).due("position", 2);
        check.about(FIRST);
        start().refused("next", Run.STATE);
        full().refused("next", Run.STATE);
    }

    private static void nextAtTheEnd() {
        promise(38, "NoSuchElementException if there is no such event; the replay stays where it is");
        start().does("replay").refused("next", Run.ELEMENT).due("position", 0);
        Run x = States.withPairs(check, 2).does("replay").refused("next", Run.ELEMENT);
        x.does("wish 1 true").refused("next", Run.ELEMENT).due("position", 0).due("next", Run.ELEMENT)
                .due("position", 0);
        x.does("wish 0 true; next").due("position", 2).due("next", 3).due("position", 4).refused("next", Run.ELEMENT);
        x.does("hit 0 0 0").refused("next", Run.ELEMENT).due("next", Run.ELEMENT).due("position", 4);
        Run y = States.withPairs(check, 1).does("send 0; wish 0 true; replay; next").due("position", 2);
        y.refused("next", Run.ELEMENT).due("next", Run.ELEMENT).due("position", 2);
    }

    // ---- promises 40 and 41

    private static void meanCost() {
        promise(40, "ArithmeticException if there are no such hits");
        Run x = start().does("addProcessor 0 1; place a; probe b 50; addProcess 0").refused("meanCost", Run.ARITHMETIC);
        x.does("send 0; hit 0 0 0").refused("meanCost", Run.ARITHMETIC);
        x.does("probe a 1; hit 0 0 0").due("meanCost", 1.0);
    }

    private static void lostShare() {
        promise(41, "ArithmeticException if there are no events");
        Run x = start().does("addProcessor 0 1; place a; probe b 50; addProcess 0")
                .refused("lostShare", Run.ARITHMETIC);
        x.does("hit 0 0 0").refused("lostShare", Run.ARITHMETIC);
        x.does("send 0").due("lostShare", 0.0f).does("send 0").due("lostShare", 0.5f);
    }
}
