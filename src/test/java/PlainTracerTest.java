/** Long runs of calls, drawn from a fixed sequence of numbers, answered as PlainTracer answers them. */
public final class PlainTracerTest {
    private static final int RUNS = 400;
    private static final int CALLS = 512;

    private static final Check check = new Check("runs compared with the plain tracer");

    private final int run;
    private final EventTracer x = new EventTracer();
    private final PlainTracer plain = new PlainTracer();
    private final boolean isFewLetters;
    private long seed;
    private int calls = 0;

    private PlainTracerTest(int run) {
        this.run = run;
        this.seed = run * 7919L + 17;
        this.isFewLetters = run % 2 == 0;
    }

    public static void main(String[] args) {
        for (int run = 0; run < RUNS; run++) {
            new PlainTracerTest(run).goOn();
        }
        check.end();
    }

    private void goOn() {
        for (int i = draw(5); i > 0; i--) {
            addProcessor();
        }
        for (int i = draw(5); i > 0; i--) {
            addProcess();
        }
        for (int i = draw(6); i > 0; i--) {
            addPlace();
        }
        for (int i = draw(5); i > 0; i--) {
            addProbe();
        }
        while (calls < CALLS - 20) {
            change(draw(100));
            ask(draw(33));
        }
        due("isConsistent()", () -> true, x::isConsistent);
    }

    private int draw(int below) {
        seed = seed * 6364136223846793005L + 1442695040888963407L;
        return (int) ((seed >>> 33) % below);
    }

    /** A number below a limit, or now and then one that is out of range. */
    private int number(int limit) {
        int kind = draw(40);
        return kind == 0 ? -1 : kind == 1 ? limit : draw(limit);
    }

    private void due(String call, Check.Call want, Check.Call got) {
        calls++;
        check.due("run " + run + ", call " + calls + ": " + call, Check.answerOf(want), got);
    }

    private void change(int kind) {
        if (kind < 1) {
            addProcessor();
        } else if (kind < 2) {
            addProcess();
        } else if (kind < 4) {
            addPlace();
        } else if (kind < 6) {
            addProbe();
        } else if (kind < 7) {
            int probe = number(6);
            due("removeProbe(" + probe + ")", () -> plain.removeProbe(probe), () -> x.removeProbe(probe));
        } else if (kind < 25) {
            int ticks = draw(10) == 0 ? number(200) : 1 + draw(8);
            due("pass(" + ticks + ")", () -> plain.pass(ticks), () -> x.pass(ticks));
        } else if (kind < 50) {
            int processor = number(4);
            int place = number(6);
            int process = number(4);
            due("hit(" + processor + ", " + place + ", " + process + ")",
                    () -> plain.hit(processor, place, process), () -> x.hit(processor, place, process));
        } else if (kind < 65) {
            int processor = number(4);
            due("send(" + processor + ")", () -> plain.send(processor), () -> x.send(processor));
        } else if (kind < 90) {
            int message = number(20);
            int processor = number(4);
            due("receive(" + message + ", " + processor + ")",
                    () -> plain.receive(message, processor), () -> x.receive(message, processor));
        } else if (kind < 93) {
            int processor = number(4);
            due("mark(" + processor + ")", () -> plain.mark(processor), () -> x.mark(processor));
        } else if (kind < 97) {
            int place = number(6);
            boolean isWished = draw(3) > 0;
            due("wish(" + place + ", " + isWished + ")",
                    () -> plain.wish(place, isWished), () -> x.wish(place, isWished));
        } else if (kind < 99) {
            due("replay()", plain::replay, x::replay);
        } else {
            type();
        }
    }

    private void addProcessor() {
        int offset = number(501);
        int capacity = draw(3) == 0 ? number(17) : 1 + draw(5);
        due("addProcessor(" + offset + ", " + capacity + ")",
                () -> plain.addProcessor(offset, capacity), () -> x.addProcessor(offset, capacity));
    }

    private void addProcess() {
        int budget = draw(2) == 0 ? number(1000) : draw(80);
        due("addProcess(" + budget + ")", () -> plain.addProcess(budget), () -> x.addProcess(budget));
    }

    private void addPlace() {
        typeMany(isFewLetters ? "aab" : "abc.aab.abc.aab.?");
        due("addPlace()", plain::addPlace, x::addPlace);
    }

    private void addProbe() {
        typeMany(isFewLetters ? "aab*?" : "abc.?***");
        int cost = number(51);
        due("addProbe(" + cost + ")", () -> plain.addProbe(cost), () -> x.addProbe(cost));
    }

    private void typeMany(String signs) {
        int length = draw(draw(6) == 0 ? 14 : 4);
        for (int i = 0; i < length; i++) {
            char character = signs.charAt(draw(signs.length()));
            due("type(" + character + ")", () -> plain.type(character), () -> x.type(character));
        }
    }

    private void type() {
        char character = (char) draw(300);
        due("type((char) " + (int) character + ")", () -> plain.type(character), () -> x.type(character));
    }

    private void ask(int kind) {
        int event = number(Math.max(1, plain.events()));
        int other = number(Math.max(1, plain.events()));
        int processor = number(4);
        int second = number(4);
        int probe = number(6);
        int place = number(6);
        int process = number(4);
        int index = number(16);
        String e = "(" + event + ")";
        String p = "(" + processor + ")";
        switch (kind) {
            case 0 -> due("now()", plain::now, x::now);
            case 1 -> due("matches(" + probe + ", " + place + ")",
                    () -> plain.matches(probe, place), () -> x.matches(probe, place));
            case 2 -> due("matchesByTable(" + probe + ", " + place + ")",
                    () -> plain.matches(probe, place), () -> x.matchesByTable(probe, place));
            case 3 -> due("spent(" + process + ")", () -> plain.spent(process), () -> x.spent(process));
            case 4 -> due("spentByEvents(" + process + ")", () -> plain.spent(process), () -> x.spentByEvents(process));
            case 5 -> due("isShed(" + probe + ", " + process + ")",
                    () -> plain.isShed(probe, process), () -> x.isShed(probe, process));
            case 6 -> due("dearest()", plain::dearest, x::dearest);
            case 7 -> due("events()", plain::events, x::events);
            case 8 -> due("kind" + e, () -> plain.kind(event), () -> x.kind(event));
            case 9 -> due("localTime" + e, () -> plain.localTime(event), () -> x.localTime(event));
            case 10 -> due("processorOf" + e, () -> plain.processorOf(event), () -> x.processorOf(event));
            case 11 -> due("fired" + e, () -> plain.fired(event), () -> x.fired(event));
            case 12 -> due("kept" + p, () -> plain.kept(processor), () -> x.kept(processor));
            case 13 -> due("keptAt(" + processor + ", " + index + ")",
                    () -> plain.keptAt(processor, index), () -> x.keptAt(processor, index));
            case 14 -> due("lost" + p, () -> plain.lost(processor), () -> x.lost(processor));
            case 15, 16 -> due("gap" + p, () -> plain.gap(processor), () -> x.gap(processor));
            case 17 -> due("bound(" + processor + ", " + second + ")",
                    () -> plain.bound(processor, second), () -> x.bound(processor, second));
            case 18 -> due("correction" + p, () -> plain.correction(processor), () -> x.correction(processor));
            case 19 -> due("correctedTime" + e, () -> plain.correctedTime(event), () -> x.correctedTime(event));
            case 20, 21 -> due("causes(" + event + ", " + other + ")",
                    () -> plain.causes(event, other), () -> x.causes(event, other));
            case 22, 23 -> due("causesByPairs(" + event + ", " + other + ")",
                    () -> plain.causes(event, other), () -> x.causesByPairs(event, other));
            case 24 -> due("keptEvents()", plain::keptEvents, x::keptEvents);
            case 25 -> due("merged(" + index + ")", () -> plain.merged(index), () -> x.merged(index));
            case 26, 27 -> due("next()", plain::next, x::next);
            case 28 -> due("position()", plain::position, x::position);
            case 29 -> due("meanCost()", plain::meanCost, x::meanCost);
            case 30 -> due("lostShare()", plain::lostShare, x::lostShare);
            case 31 -> due("fingerprint()", plain::fingerprint, x::fingerprint);
            default -> due("isConsistent()", () -> true, x::isConsistent);
        }
    }
}
