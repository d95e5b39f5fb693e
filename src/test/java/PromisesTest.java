/** For each promise of the document: ordinary inputs, the edges that it names, and wrong inputs. */
public final class PromisesTest {
    private static final Check check = new Check("promises");

    public static void main(String[] args) {
        newObject();
        addProcessor();
        nowAndPass();
        passBeginsWindows();
        type();
        addPlace();
        addProbe();
        removeProbe();
        matches();
        matchesOfHardPatterns();
        addProcess();
        hit();
        hitIsRefused();
        hitSheds();
        send();
        receive();
        receiveIsRefused();
        spentBothWays();
        isShed();
        dearest();
        eventsAndTheirParts();
        eventsAreRefused();
        rings();
        ringOfOne();
        marksAndGaps();
        bounds();
        boundsAlongSequences();
        corrections();
        correctionsOfOneSide();
        correctionsRoundDown();
        causesBothWays();
        causesThroughLostEvents();
        mergedByTime();
        mergedByCauses();
        mergedWithLostCauses();
        mergedByNumber();
        wish();
        replayAndNext();
        replayKeepsItsOrder();
        meanCost();
        lostShare();
        fingerprint();
        isConsistent();
        check.end();
    }

    // ---- promise 1

    private static void newObject() {
        EventTracer x = new EventTracer();
        check.due("now of a new object", 0, x::now);
        check.due("events of a new object", 0, x::events);
        check.due("keptEvents of a new object", 0, x::keptEvents);
        check.due("fingerprint of a new object", 7L, x::fingerprint);
        check.due("isConsistent of a new object", true, x::isConsistent);
        check.badIndex("kept without processors", () -> x.kept(0));
        check.badIndex("wish without places", () -> x.wish(0, true));
        check.badIndex("removeProbe without probes", () -> x.removeProbe(0));
        check.badIndex("spent without processes", () -> x.spent(0));
        check.badIndex("kind without events", () -> x.kind(0));
        check.badIndex("merged without events", () -> x.merged(0));
        check.badState("next before a replay", x::next);
        check.badState("position before a replay", x::position);
        EventTracer other = new EventTracer();
        x.addProcessor(0, 1);
        x.pass(5);
        check.due("now of another object", 0, other::now);
        check.badIndex("kept of another object", () -> other.kept(0));
    }

    // ---- promise 2

    private static void addProcessor() {
        EventTracer x = new EventTracer();
        check.badArgument("addProcessor(-1, 1)", () -> x.addProcessor(-1, 1));
        check.badArgument("addProcessor(501, 1)", () -> x.addProcessor(501, 1));
        check.badArgument("addProcessor(0, 0)", () -> x.addProcessor(0, 0));
        check.badArgument("addProcessor(0, 17)", () -> x.addProcessor(0, 17));
        check.badArgument("addProcessor of extremes", () -> x.addProcessor(Integer.MIN_VALUE, Integer.MAX_VALUE));
        check.due("addProcessor(0, 1)", 0, () -> x.addProcessor(0, 1));
        check.due("addProcessor(500, 16)", 1, () -> x.addProcessor(500, 16));
        check.due("addProcessor(3, 3)", 2, () -> x.addProcessor(3, 3));
        check.due("its ring is empty", 0, () -> x.kept(2));
        check.badIndex("a fourth processor is not there yet", () -> x.kept(3));
        check.due("addProcessor(3, 3) again", 3, () -> x.addProcessor(3, 3));
        check.badState("addProcessor of a fifth", () -> x.addProcessor(3, 3));
        check.badArgument("addProcessor of a wrong fifth", () -> x.addProcessor(3, 17));
        check.badIndex("no fifth was added", () -> x.kept(4));
    }

    // ---- promises 3 and 4

    private static void nowAndPass() {
        EventTracer x = new EventTracer();
        check.badArgument("pass(0)", () -> x.pass(0));
        check.badArgument("pass(-1)", () -> x.pass(-1));
        check.badArgument("pass(201)", () -> x.pass(201));
        check.badArgument("pass(MAX)", () -> x.pass(Integer.MAX_VALUE));
        check.due("now after wrong passes", 0, x::now);
        check.due("pass(1)", 1, () -> x.pass(1));
        check.due("pass(200)", 201, () -> x.pass(200));
        check.due("now", 201, x::now);
        for (int i = 0; i < 3; i++) {
            x.pass(200);
        }
        check.badState("pass(200) beyond 1000", () -> x.pass(200));
        check.badArgument("pass(201) beyond 1000", () -> x.pass(201));
        check.due("now stays", 801, x::now);
        check.due("pass up to 1000", 1000, () -> x.pass(199));
        check.badState("pass(1) at 1000", () -> x.pass(1));
        check.due("now at the end", 1000, x::now);
    }

    private static void passBeginsWindows() {
        EventTracer x = withProbes("a", "*", 7);
        x.addProcessor(0, 16);
        x.addProcess(5);
        x.pass(99);
        x.hit(0, 0, 0);
        check.due("spent at 99", 7, () -> x.spent(0));
        check.due("shed at 99", true, () -> x.isShed(0, 0));
        x.pass(1);
        check.due("spent at 100", 0, () -> x.spent(0));
        check.due("spentByEvents at 100", 0, () -> x.spentByEvents(0));
        check.due("shed at 100", false, () -> x.isShed(0, 0));
        x.hit(0, 0, 0);
        x.pass(99);
        check.due("spent at 199", 7, () -> x.spent(0));
        check.due("spentByEvents at 199", 7, () -> x.spentByEvents(0));
        check.due("shed at 199", true, () -> x.isShed(0, 0));
        check.due("a shed probe does not fire", 0, () -> x.hit(0, 0, 0));
        x.pass(200);
        check.due("spent two windows later", 0, () -> x.spent(0));
        check.due("shed two windows later", false, () -> x.isShed(0, 0));
        check.due("it fires again", 1, () -> x.hit(0, 0, 0));
        for (int i = 0; i < 3; i++) {
            x.pass(200);
        }
        x.hit(0, 0, 0);
        check.due("spent at 999", "999 7 true", () -> x.now() + " " + x.spent(0) + " " + x.isShed(0, 0));
        x.pass(1);
        check.due("1000 is in a new window", "1000 0 false", () -> x.now() + " " + x.spent(0) + " " + x.isShed(0, 0));
    }

    // ---- promise 5

    private static void type() {
        EventTracer x = new EventTracer();
        for (char wrong : new char[] {0, ' ', 'A', 'Z', '`', '{', '-', '/', '+', '>', '@', '0', 'ä', '\uffff'}) {
            check.badArgument("type of " + (int) wrong, () -> x.type(wrong));
        }
        check.due("type a", 1, () -> x.type('a'));
        check.due("type z", 2, () -> x.type('z'));
        check.due("type .", 3, () -> x.type('.'));
        check.due("type ?", 4, () -> x.type('?'));
        check.due("type *", 5, () -> x.type('*'));
        typeAll(x, "mmmmmm");
        check.due("type the twelfth", 12, () -> x.type('m'));
        check.badState("type the thirteenth", () -> x.type('m'));
        check.badArgument("type a wrong thirteenth", () -> x.type('M'));
        check.due("the buffer is the pattern", 0, () -> x.addProbe(1));
        typeAll(x, "azbammmmmmmm");
        x.addPlace();
        typeAll(x, "az.bmmmmmmm");
        x.addPlace();
        check.due("the pattern has the typed characters", "false true",
                () -> x.matches(0, 0) + " " + x.matches(0, 1));
    }

    // ---- promise 6

    private static void addPlace() {
        EventTracer x = new EventTracer();
        check.badArgument("addPlace of nothing", x::addPlace);
        check.due("addPlace of a", 0, () -> place(x, "a"));
        check.badArgument("the buffer is empty behind a place", x::addPlace);
        check.badArgument("addPlace of a again", () -> place(x, "a"));
        check.due("the buffer is empty behind an exception", 1, () -> x.type('b'));
        check.due("addPlace of b", 1, x::addPlace);
        check.badArgument("addPlace of a?", () -> place(x, "a?"));
        check.badArgument("addPlace of *", () -> place(x, "*"));
        check.badArgument("addPlace of ?a", () -> place(x, "?a"));
        check.due("the buffer is empty behind them", 1, () -> x.type('.'));
        check.due("addPlace of .", 2, x::addPlace);
        check.due("addPlace of twelve", 3, () -> place(x, "abcdefghijkl"));
        check.due("addPlace of another beginning", 4, () -> place(x, "aa"));
        for (int i = 5; i < 10; i++) {
            int number = i;
            check.due("addPlace " + i, i, () -> place(x, "p" + (char) ('a' + number)));
        }
        check.badState("addPlace of an eleventh", () -> place(x, "q"));
        check.due("the buffer is empty behind a full list", 1, () -> x.type('q'));
        check.badState("addPlace of an eleventh again", x::addPlace);
        check.badArgument("addPlace of a wrong eleventh", () -> place(x, "a"));
        check.badArgument("addPlace of an empty eleventh", x::addPlace);
        check.badIndex("no eleventh was added", () -> x.wish(10, true));
        check.due("the tenth is there", false, () -> x.wish(9, true));
    }

    // ---- promise 7

    private static void addProbe() {
        EventTracer x = new EventTracer();
        check.badArgument("addProbe of nothing", () -> x.addProbe(1));
        check.badArgument("addProbe(0)", () -> probe(x, "a", 0));
        check.due("the buffer is empty behind a wrong cost", 1, () -> x.type('a'));
        check.badArgument("addProbe(51)", () -> x.addProbe(51));
        check.badArgument("addProbe(-1)", () -> probe(x, "a", -1));
        check.badArgument("addProbe behind a wrong cost", () -> x.addProbe(1));
        check.due("addProbe(1)", 0, () -> probe(x, "a", 1));
        check.badArgument("the buffer is empty behind a probe", () -> x.addProbe(1));
        check.due("addProbe(50)", 1, () -> probe(x, "?", 50));
        check.due("addProbe of the same", 2, () -> probe(x, "?", 50));
        check.due("addProbe of twelve", 3, () -> probe(x, "************", 5));
        x.removeProbe(1);
        check.due("the number of a removed probe is not used again", 4, () -> probe(x, "a", 5));
        check.due("addProbe of the sixth", 5, () -> probe(x, "a", 5));
        check.badState("addProbe of a seventh", () -> probe(x, "a", 5));
        check.due("the buffer is empty behind a full list", 1, () -> x.type('a'));
        check.badArgument("addProbe of a wrong seventh", () -> x.addProbe(51));
        check.badArgument("addProbe of an empty seventh", () -> x.addProbe(5));
        check.badIndex("no seventh was added", () -> x.removeProbe(6));
    }

    // ---- promise 8

    private static void removeProbe() {
        EventTracer x = withProbes("a", "*", 5, "a", 6, "?", 7);
        x.addProcessor(0, 16);
        x.addProcess(999);
        check.badIndex("removeProbe(-1)", () -> x.removeProbe(-1));
        check.badIndex("removeProbe(3)", () -> x.removeProbe(3));
        check.due("removeProbe(1)", 2, () -> x.removeProbe(1));
        check.badState("removeProbe(1) again", () -> x.removeProbe(1));
        check.due("a removed probe does not fire", 2, () -> x.hit(0, 0, 0));
        check.due("the others fire", 5, () -> x.fired(0));
        check.due("a removed probe still matches", "true true",
                () -> x.matches(1, 0) + " " + x.matchesByTable(1, 0));
        check.due("removeProbe(0)", 1, () -> x.removeProbe(0));
        check.due("removeProbe(2)", 0, () -> x.removeProbe(2));
        check.due("nothing fires", 0, () -> x.hit(0, 0, 0));
        check.due("what they cost stays", 12, () -> x.spentByEvents(0));
        check.due("the dearest may be removed", 2, x::dearest);
        check.due("a later probe is on", 1, () -> { probe(x, "b", 1); probe(x, "c", 1); return x.removeProbe(4); });
    }

    // ---- promises 9 and 10

    private static void matches() {
        expectMatch("abc", "abc", true);
        expectMatch("abc", "ab", false);
        expectMatch("ab", "abc", false);
        expectMatch("bc", "abc", false);
        expectMatch("a.c", "abc", false);
        expectMatch("a.c", "a.c", true);
        expectMatch("?", "a", true);
        expectMatch("?", ".", true);
        expectMatch("?", "ab", false);
        expectMatch("??", "a", false);
        expectMatch("a?c", "abc", true);
        expectMatch("a?c", "ac", false);
        expectMatch("*", "a", true);
        expectMatch("*", "abcdefghijkl", true);
        expectMatch("a*", "a", true);
        expectMatch("*a", "a", true);
        expectMatch("*a*", "a", true);
        expectMatch("**", "a", true);
        expectMatch("a*b", "ab", true);
        expectMatch("a*b", "axxb", true);
        expectMatch("a*b", "axbx", false);
        expectMatch("*b*d", "abcbd", true);
        expectMatch("*b*d", "abcdb", false);
        expectMatch("*ab", "aab", true);
        expectMatch("*x*", "aba", false);
        expectMatch("*x*a", "aba", false);
        expectMatch("*b*b", "aba", false);
        expectMatch("a*a", "a", false);
        expectMatch("a*", "ba", false);
        expectMatch("abc*", "ab", false);
        expectMatch("*abc", "bc", false);
        expectMatch("*ab*c", "abab", false);
        expectMatch("*ab*ab*", "abab", true);
        expectMatch("*ab*ba*", "aba", false);
        expectMatch("*?", "a", true);
        expectMatch("?*?", "a", false);
        expectMatch("?*?", "ab", true);
        EventTracer x = withProbes("a", "a", 1);
        check.badIndex("matches(-1, 0)", () -> x.matches(-1, 0));
        check.badIndex("matches(1, 0)", () -> x.matches(1, 0));
        check.badIndex("matches(0, -1)", () -> x.matches(0, -1));
        check.badIndex("matches(0, 1)", () -> x.matches(0, 1));
        check.badIndex("matchesByTable(-1, 0)", () -> x.matchesByTable(-1, 0));
        check.badIndex("matchesByTable(1, 0)", () -> x.matchesByTable(1, 0));
        check.badIndex("matchesByTable(0, -1)", () -> x.matchesByTable(0, -1));
        check.badIndex("matchesByTable(0, 1)", () -> x.matchesByTable(0, 1));
    }

    private static void matchesOfHardPatterns() {
        expectMatch("************", "a", true);
        expectMatch("***********b", "aaaaaaaaaaaa", false);
        expectMatch("*a*a*a*a*a*b", "aaaaaaaaaaaa", false);
        expectMatch("*a*a*a*a*a*a", "aaaaaaaaaaaa", true);
        expectMatch("????????????", "abcdefghijkl", true);
        expectMatch("????????????", "abcdefghijk", false);
        expectMatch("abcdefghijkl", "abcdefghijkl", true);
        expectMatch("abcdefghijkl", "abcdefghijkm", false);
        expectMatch("?*?*?*?*?*??", "abcdefg", true);
        expectMatch("?*?*?*?*?*??", "abcdef", false);
    }

    private static void expectMatch(String pattern, String name, boolean want) {
        EventTracer x = withProbes(name, pattern, 1);
        check.due(pattern + " matches " + name, want, () -> x.matches(0, 0));
        check.due(pattern + " matchesByTable " + name, want, () -> x.matchesByTable(0, 0));
        check.due(pattern + " is consistent with " + name, true, x::isConsistent);
    }

    // ---- promise 11

    private static void addProcess() {
        EventTracer x = new EventTracer();
        check.badArgument("addProcess(-1)", () -> x.addProcess(-1));
        check.badArgument("addProcess(1000)", () -> x.addProcess(1000));
        check.due("addProcess(0)", 0, () -> x.addProcess(0));
        check.due("addProcess(999)", 1, () -> x.addProcess(999));
        check.due("addProcess(5)", 2, () -> x.addProcess(5));
        check.badIndex("a fourth process is not there yet", () -> x.spent(3));
        check.due("addProcess(5) again", 3, () -> x.addProcess(5));
        check.due("it has spent nothing", 0, () -> x.spent(3));
        check.badState("addProcess of a fifth", () -> x.addProcess(5));
        check.badArgument("addProcess of a wrong fifth", () -> x.addProcess(1000));
        check.badIndex("no fifth was added", () -> x.spent(4));
    }

    // ---- promise 12

    private static void hit() {
        EventTracer x = withProbes("io.read", "io.*", 3, "mem", 4, "*d", 5);
        place(x, "mem");
        place(x, "q");
        x.addProcessor(10, 16);
        x.addProcessor(20, 16);
        x.addProcess(999);
        check.due("two probes fire", 2, () -> x.hit(0, 0, 0));
        check.due("one probe fires", 1, () -> x.hit(1, 1, 0));
        check.due("no probe fires", 0, () -> x.hit(1, 2, 0));
        check.due("a hit without a probe is no event", 2, x::events);
        check.due("nor is it kept", 1, () -> x.kept(1));
        check.due("nor does it cost", 12, () -> x.spent(0));
        check.due("the hit is an event", 'h', () -> x.kind(1));
        check.due("which probes fired first", 5, () -> x.fired(0));
        check.due("which probe fired then", 2, () -> x.fired(1));
        check.due("a later probe fires, too", 3, () -> { probe(x, "*.*", 1); return x.hit(0, 0, 0); });
        check.due("its bit is the third", 13, () -> x.fired(2));
    }

    private static void hitIsRefused() {
        EventTracer x = withProbes("a", "a", 1);
        place(x, "b");
        x.addProcessor(0, 16);
        x.addProcess(0);
        check.badIndex("hit(1, 0, 0)", () -> x.hit(1, 0, 0));
        check.badIndex("hit(-1, 0, 0)", () -> x.hit(-1, 0, 0));
        check.badIndex("hit(0, 2, 0)", () -> x.hit(0, 2, 0));
        check.badIndex("hit(0, -1, 0)", () -> x.hit(0, -1, 0));
        check.badIndex("hit(0, 0, 1)", () -> x.hit(0, 0, 1));
        check.badIndex("hit(0, 0, -1)", () -> x.hit(0, 0, -1));
        check.due("refused hits are no events", 0, x::events);
        check.due("refused hits cost nothing", 0, () -> x.spent(0));
        sendMany(x, 20);
        x.addProcess(999);
        for (int i = 0; i < 40; i++) {
            check.due("hit " + i, 1, () -> x.hit(0, 0, 1));
        }
        check.due("there are 60 events", 60, x::events);
        check.badState("hit at 60 events", () -> x.hit(0, 0, 1));
        check.badState("hit without a probe at 60 events", () -> x.hit(0, 1, 1));
        check.badIndex("wrong hit at 60 events", () -> x.hit(0, 2, 1));
        check.badIndex("hit of no process at 60 events", () -> x.hit(0, 0, 2));
        check.due("refused hits change no sum", 40, () -> x.spent(1));
        check.due("nor the mean", 1.0, x::meanCost);
    }

    private static void hitSheds() {
        EventTracer x = withProbes("a", "a", 5, "*", 9, "?", 9, "a*", 2);
        x.addProcessor(0, 16);
        x.addProcess(25);
        x.addProcess(24);
        check.due("the budget is spent just so", 4, () -> x.hit(0, 0, 0));
        check.due("nothing is shed then", "false false", () -> x.isShed(1, 0) + " " + x.isShed(2, 0));
        check.due("beyond the budget", 4, () -> x.hit(0, 0, 1));
        check.due("the lowest of the most expensive is shed", "false true false false", () -> shedOf(x, 4, 1));
        check.due("for this process alone", "false false false false", () -> shedOf(x, 4, 0));
        check.due("the others fire", 3, () -> x.hit(0, 0, 1));
        check.due("the set of the others", 13, () -> x.fired(2));
        check.due("the next is shed", "false true true false", () -> shedOf(x, 4, 1));
        check.due("two are left", 2, () -> x.hit(0, 0, 1));
        check.due("the next but one is shed", "true true true false", () -> shedOf(x, 4, 1));
        check.due("one is left", 1, () -> x.hit(0, 0, 1));
        check.due("all are shed", "true true true true", () -> shedOf(x, 4, 1));
        check.due("none is left", 0, () -> x.hit(0, 0, 1));
        check.due("what it has spent", 25 + 16 + 7 + 2, () -> x.spent(1));
        check.due("only one that fired is shed", 1, () -> { place(x, "b"); probe(x, "b", 1); return x.hit(0, 1, 1); });
        check.due("the one that fired is shed", true, () -> x.isShed(4, 1));
        check.due("isConsistent behind shedding", true, x::isConsistent);
    }

    // ---- promise 13

    private static void send() {
        EventTracer x = new EventTracer();
        check.badIndex("send without processors", () -> x.send(0));
        x.addProcessor(7, 2);
        x.pass(3);
        check.badIndex("send(-1)", () -> x.send(-1));
        check.badIndex("send(1)", () -> x.send(1));
        check.due("refused sends are no events", 0, x::events);
        check.due("the first message", 0, () -> x.send(0));
        check.due("the second message", 1, () -> x.send(0));
        check.due("a send is an event", "2 s 10", () -> x.events() + " " + x.kind(1) + " " + x.localTime(1));
        sendMany(x, 18);
        check.badState("a message beyond 20", () -> x.send(0));
        check.badIndex("a wrong processor beyond 20", () -> x.send(1));
        check.due("no event beyond 20", 20, x::events);
        EventTracer y = withProbes("a", "*", 1);
        y.addProcessor(0, 16);
        y.addProcess(999);
        sendMany(y, 19);
        for (int i = 0; i < 41; i++) {
            y.hit(0, 0, 0);
        }
        check.badState("send of the twentieth message at 60 events", () -> y.send(0));
        check.badIndex("wrong send at 60 events", () -> y.send(1));
    }

    // ---- promise 14

    private static void receive() {
        EventTracer x = new EventTracer();
        x.addProcessor(7, 2);
        x.addProcessor(100, 2);
        x.send(0);
        x.pass(4);
        x.send(1);
        check.due("the later message first", 2, () -> x.receive(1, 0));
        check.due("the earlier message then", 3, () -> x.receive(0, 1));
        check.due("a receive is an event", "4 r 1 104",
                () -> x.events() + " " + x.kind(3) + " " + x.processorOf(3) + " " + x.localTime(3));
        check.due("it is kept", "2 3", () -> x.kept(1) + " " + x.keptAt(1, 1));
    }

    private static void receiveIsRefused() {
        EventTracer x = new EventTracer();
        x.addProcessor(7, 2);
        x.addProcessor(100, 2);
        check.badIndex("receive of no message", () -> x.receive(0, 1));
        x.send(0);
        check.badIndex("receive(1, 1)", () -> x.receive(1, 1));
        check.badIndex("receive(-1, 1)", () -> x.receive(-1, 1));
        check.badIndex("receive(0, 2)", () -> x.receive(0, 2));
        check.badIndex("receive(0, -1)", () -> x.receive(0, -1));
        String ofOwn = "throws UnsupportedOperationException";
        check.due("receive where it was sent", ofOwn, () -> x.receive(0, 0));
        check.due("refused receives are no events", 1, x::events);
        check.due("receive elsewhere", 1, () -> x.receive(0, 1));
        check.badState("receive again", () -> x.receive(0, 1));
        check.badState("receive again where it was sent", () -> x.receive(0, 0));
        check.badIndex("receive again nowhere", () -> x.receive(0, 2));
        EventTracer y = full(true);
        y.addProcessor(0, 1);
        check.badState("receive at 60 events", () -> y.receive(0, 1));
        check.badState("receive at 60 events where it was sent", () -> y.receive(0, 0));
        check.badIndex("wrong receive at 60 events", () -> y.receive(20, 1));
    }

    // ---- promises 15 and 16

    private static void spentBothWays() {
        EventTracer x = withProbes("a", "a", 5, "*", 9);
        place(x, "b");
        x.addProcessor(500, 1);
        x.addProcess(999);
        x.addProcess(999);
        x.hit(0, 0, 0);
        x.hit(0, 1, 0);
        x.hit(0, 1, 1);
        check.due("spent(0)", 23, () -> x.spent(0));
        check.due("spentByEvents(0) counts lost events", 23, () -> x.spentByEvents(0));
        check.due("spent(1)", 9, () -> x.spent(1));
        check.due("spentByEvents(1)", 9, () -> x.spentByEvents(1));
        x.send(0);
        x.removeProbe(1);
        check.due("spentByEvents behind a removal", 23, () -> x.spentByEvents(0));
        x.pass(150);
        x.hit(0, 0, 0);
        check.due("spent in the next window", 5, () -> x.spent(0));
        check.due("spentByEvents in the next window", 5, () -> x.spentByEvents(0));
        check.due("the other one spent nothing", "0 0", () -> x.spent(1) + " " + x.spentByEvents(1));
        check.badIndex("spent(-1)", () -> x.spent(-1));
        check.badIndex("spent(2)", () -> x.spent(2));
        check.badIndex("spentByEvents(-1)", () -> x.spentByEvents(-1));
        check.badIndex("spentByEvents(2)", () -> x.spentByEvents(2));
    }

    // ---- promise 17

    private static void isShed() {
        EventTracer x = withProbes("a", "a", 5, "*", 9);
        x.addProcessor(0, 1);
        x.addProcess(1);
        check.due("not shed at first", false, () -> x.isShed(1, 0));
        x.hit(0, 0, 0);
        check.due("shed", true, () -> x.isShed(1, 0));
        x.removeProbe(1);
        check.due("a removed one stays shed", true, () -> x.isShed(1, 0));
        x.addProcess(1);
        check.due("not shed for a new process", false, () -> x.isShed(1, 1));
        check.badIndex("isShed(-1, 0)", () -> x.isShed(-1, 0));
        check.badIndex("isShed(2, 0)", () -> x.isShed(2, 0));
        check.badIndex("isShed(0, -1)", () -> x.isShed(0, -1));
        check.badIndex("isShed(0, 2)", () -> x.isShed(0, 2));
    }

    // ---- promise 18

    private static void dearest() {
        EventTracer x = withProbes("a", "b", 20, "a", 5, "*", 10);
        place(x, "b");
        x.addProcessor(0, 1);
        x.addProcess(999);
        check.noElement("dearest before any hit", x::dearest);
        x.send(0);
        check.noElement("dearest before any probe fired", x::dearest);
        x.hit(0, 0, 0);
        check.due("10 of 15", 2, x::dearest);
        x.hit(0, 1, 0);
        check.due("the lowest number of two with 20", 0, x::dearest);
        x.hit(0, 0, 0);
        check.due("30 of probe 2", 2, x::dearest);
        x.removeProbe(2);
        x.pass(200);
        for (int i = 0; i < 5; i++) {
            x.hit(0, 0, 0);
        }
        check.due("35 of probe 1 in lost events", 1, x::dearest);
        EventTracer y = withProbes("a", "*", 1);
        y.addProcessor(0, 1);
        y.addProcess(999);
        y.hit(0, 0, 0);
        check.due("the least sum that there can be", 0, y::dearest);
    }

    // ---- promises 19 to 23

    private static void eventsAndTheirParts() {
        EventTracer x = withProbes("a", "a", 5, "*", 9);
        x.addProcessor(30, 1);
        x.addProcessor(0, 1);
        x.addProcess(999);
        x.hit(1, 0, 0);
        x.pass(10);
        x.send(0);
        x.pass(10);
        x.receive(0, 1);
        check.due("events", 3, x::events);
        check.due("kinds", "hsr", () -> "" + x.kind(0) + x.kind(1) + x.kind(2));
        check.due("local times", "0 40 20", () -> x.localTime(0) + " " + x.localTime(1) + " " + x.localTime(2));
        check.due("processors", "1 0 1", () -> x.processorOf(0) + " " + x.processorOf(1) + " " + x.processorOf(2));
        check.due("fired of a lost hit", 3, () -> x.fired(0));
        check.noElement("fired of a send", () -> x.fired(1));
        check.noElement("fired of a receive", () -> x.fired(2));
    }

    private static void eventsAreRefused() {
        EventTracer x = new EventTracer();
        x.addProcessor(0, 1);
        x.send(0);
        for (int wrong : new int[] {-1, 1, 60, Integer.MAX_VALUE, Integer.MIN_VALUE}) {
            check.badIndex("kind of " + wrong, () -> x.kind(wrong));
            check.badIndex("localTime of " + wrong, () -> x.localTime(wrong));
            check.badIndex("processorOf of " + wrong, () -> x.processorOf(wrong));
            check.badIndex("fired of " + wrong, () -> x.fired(wrong));
            check.badIndex("correctedTime of " + wrong, () -> x.correctedTime(wrong));
            check.badIndex("causes of " + wrong, () -> x.causes(wrong, 0));
            check.badIndex("causes to " + wrong, () -> x.causes(0, wrong));
            check.badIndex("causesByPairs of " + wrong, () -> x.causesByPairs(wrong, 0));
            check.badIndex("causesByPairs to " + wrong, () -> x.causesByPairs(0, wrong));
            check.badIndex("merged of " + wrong, () -> x.merged(wrong));
            check.badIndex("kept of " + wrong, () -> x.kept(wrong));
            check.badIndex("keptAt of " + wrong, () -> x.keptAt(wrong, 0));
            check.badIndex("lost of " + wrong, () -> x.lost(wrong));
            check.badIndex("mark of " + wrong, () -> x.mark(wrong));
            check.badIndex("gap of " + wrong, () -> x.gap(wrong));
            check.badIndex("correction of " + wrong, () -> x.correction(wrong));
            check.badIndex("bound from " + wrong, () -> x.bound(wrong, 0));
            check.badIndex("bound to " + wrong, () -> x.bound(0, wrong));
            check.badIndex("bound of twice " + wrong, () -> x.bound(wrong, wrong));
        }
    }

    // ---- promises 24 to 26 and 34

    private static void rings() {
        EventTracer x = new EventTracer();
        x.addProcessor(0, 3);
        x.addProcessor(0, 16);
        check.noElement("keptAt of an empty ring", () -> x.keptAt(0, 0));
        x.send(0);
        x.send(1);
        x.send(0);
        check.due("two are kept", "2 0 2", () -> x.kept(0) + " " + x.keptAt(0, 0) + " " + x.keptAt(0, 1));
        check.noElement("keptAt behind the newest", () -> x.keptAt(0, 2));
        check.noElement("keptAt(0, -1)", () -> x.keptAt(0, -1));
        check.badIndex("keptAt(2, -1)", () -> x.keptAt(2, -1));
        x.send(0);
        check.due("none is lost yet", "3 0", () -> x.kept(0) + " " + x.lost(0));
        x.send(0);
        check.due("the oldest is lost", "3 1 2 3 4", () -> x.kept(0) + " " + x.lost(0) + " " + ringOf(x, 0));
        check.due("the other ring is as it was", "1 0 1", () -> x.kept(1) + " " + x.lost(1) + " " + ringOf(x, 1));
        sendMany(x, 5);
        check.due("all slots were used again", "3 6 7 8 9", () -> x.kept(0) + " " + x.lost(0) + " " + ringOf(x, 0));
        check.due("keptEvents", 4, x::keptEvents);
        check.due("events", 10, x::events);
        check.noElement("keptAt at the capacity", () -> x.keptAt(0, 3));
    }

    private static void ringOfOne() {
        EventTracer x = new EventTracer();
        x.addProcessor(0, 1);
        sendMany(x, 4);
        check.due("a ring of one", "1 3 3", () -> x.kept(0) + " " + x.lost(0) + " " + ringOf(x, 0));
        EventTracer y = new EventTracer();
        y.addProcessor(0, 16);
        sendMany(y, 16);
        check.due("a full ring of 16", "16 0 15", () -> y.kept(0) + " " + y.lost(0) + " " + y.keptAt(0, 15));
        sendMany(y, 1);
        check.due("an overwritten ring of 16", "16 1 1 16",
                () -> y.kept(0) + " " + y.lost(0) + " " + y.keptAt(0, 0) + " " + y.keptAt(0, 15));
    }

    // ---- promises 27 and 28

    private static void marksAndGaps() {
        EventTracer x = new EventTracer();
        x.addProcessor(0, 2);
        x.addProcessor(0, 2);
        check.due("gap before all events", 0, () -> x.gap(0));
        sendMany(x, 3);
        check.due("gap from the beginning", 1, () -> x.gap(0));
        check.due("gap again", 1, () -> x.gap(0));
        check.due("mark counts lost ones", 3, () -> x.mark(0));
        check.due("mark again", 0, () -> x.mark(0));
        check.due("gap behind a mark", 0, () -> x.gap(0));
        sendMany(x, 2);
        check.due("only events before the mark are lost", "3 0", () -> x.lost(0) + " " + x.gap(0));
        sendMany(x, 1);
        check.due("the first one since the mark is lost", "4 1", () -> x.lost(0) + " " + x.gap(0));
        check.due("mark of the other ring", 0, () -> x.mark(1));
        check.due("mark counts since the previous one", 3, () -> x.mark(0));
        sendMany(x, 4);
        check.due("two since the mark are lost", 2, () -> x.gap(0));
    }

    // ---- promise 29

    private static void bounds() {
        EventTracer x = new EventTracer();
        x.addProcessor(50, 16);
        x.addProcessor(20, 16);
        x.addProcessor(20, 16);
        check.noElement("bound without messages", () -> x.bound(0, 1));
        check.noElement("bound of one processor", () -> x.bound(0, 0));
        check.badIndex("bound(0, 3)", () -> x.bound(0, 3));
        check.badIndex("bound(3, 3)", () -> x.bound(3, 3));
        x.send(0);
        check.noElement("a send alone makes no bound", () -> x.bound(0, 1));
        x.pass(9);
        x.receive(0, 1);
        check.due("bound of one message", -21, () -> x.bound(0, 1));
        check.noElement("no bound back", () -> x.bound(1, 0));
        check.noElement("no bound elsewhere", () -> x.bound(0, 2));
        x.send(0);
        x.pass(10);
        x.receive(1, 1);
        check.due("a longer way is no less bound", -21, () -> x.bound(0, 1));
        x.send(0);
        x.pass(8);
        x.receive(2, 1);
        check.due("a shorter way is a less bound", -22, () -> x.bound(0, 1));
        x.send(1);
        x.receive(3, 0);
        check.due("the bound back", 30, () -> x.bound(1, 0));
        check.noElement("bound of one processor behind a circle", () -> x.bound(0, 0));
    }

    private static void boundsAlongSequences() {
        EventTracer x = new EventTracer();
        for (int i = 0; i < 4; i++) {
            x.addProcessor(i * 100, 1);
        }
        // The sequence need not follow the order in which the messages were received.
        exchange(x, 2, 3, 1);
        exchange(x, 1, 2, 2);
        check.due("bound over one stop", 203, () -> x.bound(1, 3));
        exchange(x, 0, 1, 4);
        check.due("bound over two stops", 307, () -> x.bound(0, 3));
        exchange(x, 0, 3, 9);
        check.due("the direct one is greater", 307, () -> x.bound(0, 3));
        exchange(x, 0, 2, 5);
        check.due("another sequence is less", 306, () -> x.bound(0, 3));
        exchange(x, 0, 3, 5);
        check.due("the direct one is less", 305, () -> x.bound(0, 3));
        check.noElement("no bound against the direction", () -> x.bound(3, 0));
        exchange(x, 3, 0, 6);
        check.due("bound over the new way back", 101 - 294, () -> x.bound(2, 0));
        check.due("bound round the circle", 101 - 294 + 104, () -> x.bound(2, 1));
    }

    // ---- promises 30 and 31

    private static void corrections() {
        EventTracer x = new EventTracer();
        x.addProcessor(50, 16);
        x.addProcessor(0, 16);
        x.addProcessor(200, 16);
        check.due("without messages", "0 0 0", () -> correctionsOf(x, 3));
        exchange(x, 0, 1, 7);
        check.due("only the bound from 0", "0 -43 0", () -> correctionsOf(x, 3));
        exchange(x, 2, 0, 4);
        check.due("only the bound to 0", "0 -43 146", () -> correctionsOf(x, 3));
        exchange(x, 1, 0, 3);
        check.due("both bounds", "0 -48 146", () -> correctionsOf(x, 3));
        check.due("corrected time on 0", 50, () -> x.correctedTime(0));
        check.due("corrected time on 1", 7 + 48, () -> x.correctedTime(1));
        check.due("corrected time on 2", 207 - 146, () -> x.correctedTime(2));
        check.due("corrected time of a later event", 11 + 48, () -> x.correctedTime(4));
    }

    private static void correctionsOfOneSide() {
        EventTracer x = new EventTracer();
        for (int i = 0; i < 4; i++) {
            x.addProcessor(100 * i, 1);
        }
        exchange(x, 2, 1, 3);
        check.due("a bound to another processor than 0", "0 0 0 0", () -> correctionsOf(x, 4));
        exchange(x, 3, 0, 5);
        check.due("a bound to 0 alone", "0 0 0 295", () -> correctionsOf(x, 4));
        exchange(x, 1, 0, 2);
        check.due("a bound to 0 over another processor", "0 98 195 295", () -> correctionsOf(x, 4));
    }

    private static void correctionsRoundDown() {
        EventTracer x = new EventTracer();
        x.addProcessor(50, 16);
        x.addProcessor(50, 16);
        exchange(x, 0, 1, 1);
        exchange(x, 1, 0, 4);
        check.due("-3 divided by 2", -2, () -> x.correction(1));
        EventTracer y = new EventTracer();
        y.addProcessor(50, 16);
        y.addProcessor(50, 16);
        exchange(y, 0, 1, 4);
        exchange(y, 1, 0, 1);
        check.due("3 divided by 2", 1, () -> y.correction(1));
    }

    // ---- promises 32 and 33

    private static void causesBothWays() {
        EventTracer x = new EventTracer();
        x.addProcessor(0, 16);
        x.addProcessor(0, 16);
        x.addProcessor(0, 16);
        x.send(0);          // 0 sends message 0
        x.send(1);          // 1 sends message 1
        x.receive(0, 1);    // 2
        x.send(1);          // 3 sends message 2
        x.send(0);          // 4 sends message 3
        x.receive(2, 2);    // 5
        x.send(2);          // 6 sends message 4
        x.receive(4, 0);    // 7
        x.receive(1, 0);    // 8
        expectCauses(x, 0, 2, 3, 4, 5, 6, 7, 8);
        expectCauses(x, 1, 2, 3, 5, 6, 7, 8);
        expectCauses(x, 2, 3, 5, 6, 7, 8);
        expectCauses(x, 3, 5, 6, 7, 8);
        expectCauses(x, 4, 7, 8);
        expectCauses(x, 5, 6, 7, 8);
        expectCauses(x, 6, 7, 8);
        expectCauses(x, 7, 8);
        expectCauses(x, 8);
    }

    private static void causesThroughLostEvents() {
        EventTracer x = new EventTracer();
        x.addProcessor(0, 1);
        x.addProcessor(0, 1);
        x.send(0);
        x.receive(0, 1);
        x.send(0);
        x.send(1);
        check.due("both ends of a message are lost", "1 1", () -> x.lost(0) + " " + x.lost(1));
        expectCauses(x, 0, 1, 2, 3);
        expectCauses(x, 1, 3);
        expectCauses(x, 2);
    }

    // ---- promises 34 and 35

    private static void mergedByTime() {
        EventTracer x = new EventTracer();
        x.addProcessor(100, 16);
        x.addProcessor(0, 16);
        x.send(0);
        x.pass(10);
        x.send(1);
        x.pass(10);
        x.send(0);
        x.pass(10);
        x.send(1);
        check.due("by corrected time without messages", "1 3 0 2", () -> orderOf(x));
        check.badIndex("merged(4)", () -> x.merged(4));
        check.badIndex("merged(-1)", () -> x.merged(-1));
        x.receive(0, 1);
        check.due("by the correction of one bound", "1 0 3 4 2", () -> orderOf(x));
        x.receive(1, 0);
        check.due("by the correction of both bounds", "0 1 2 3 4 5", () -> orderOf(x));
    }

    private static void mergedByCauses() {
        EventTracer x = new EventTracer();
        x.addProcessor(0, 16);
        x.addProcessor(500, 16);
        x.addProcessor(0, 16);
        // Only processors 1 and 2 exchange messages, so their clocks do not come into line.
        x.send(1);
        x.pass(1);
        x.receive(0, 2);
        x.pass(1);
        x.send(0);
        x.pass(1);
        x.send(2);
        check.due("a cause comes first in spite of its time", "2 0 1 3", () -> orderOf(x));
    }

    private static void mergedWithLostCauses() {
        EventTracer x = new EventTracer();
        x.addProcessor(0, 16);
        x.addProcessor(500, 16);
        x.addProcessor(0, 1);
        x.send(1);          // 0, kept, shows 500
        x.receive(0, 2);    // 1, lost
        x.send(2);          // 2, kept, shows 0
        x.pass(5);
        x.send(0);          // 3, kept, shows 5
        check.due("1 is lost", "3 1", () -> x.keptEvents() + " " + x.lost(2));
        check.due("a cause through a lost event comes first", "3 0 2", () -> orderOf(x));
    }

    private static void mergedByNumber() {
        EventTracer x = new EventTracer();
        x.addProcessor(0, 16);
        x.addProcessor(0, 16);
        x.addProcessor(0, 2);
        x.send(2);
        x.send(1);
        x.send(0);
        x.send(2);
        x.send(0);
        x.send(2);
        check.due("by number at one time", "1 2 3 4 5", () -> orderOf(x));
    }

    // ---- promise 36

    private static void wish() {
        EventTracer x = withProbes("a", "*", 1);
        place(x, "b");
        check.due("not wished at first", false, () -> x.wish(0, false));
        check.due("wish it", false, () -> x.wish(0, true));
        check.due("wish it again", true, () -> x.wish(0, true));
        check.due("the other is not wished", false, () -> x.wish(1, true));
        check.due("do not wish it", true, () -> x.wish(0, false));
        check.due("it was not wished", false, () -> x.wish(0, false));
        check.due("the other is wished", true, () -> x.wish(1, false));
        check.badIndex("wish(-1)", () -> x.wish(-1, true));
        check.badIndex("wish(2)", () -> x.wish(2, true));
    }

    // ---- promises 37 to 39

    private static void replayAndNext() {
        EventTracer x = withProbes("a", "*", 1);
        place(x, "b");
        x.addProcessor(0, 16);
        x.addProcessor(0, 16);
        x.addProcess(999);
        check.due("replay of nothing", 0, x::replay);
        check.due("position in nothing", 0, x::position);
        check.noElement("next in nothing", x::next);
        x.wish(0, true);
        x.hit(0, 0, 0);     // 0
        x.send(0);          // 1
        x.hit(1, 1, 0);     // 2
        x.receive(0, 1);    // 3
        x.hit(1, 0, 0);     // 4
        x.hit(0, 1, 0);     // 5
        check.noElement("next in the empty replay", x::next);
        check.due("replay", 6, x::replay);
        check.due("position before the first event", 0, x::position);
        check.due("the first wished hit", 0, x::next);
        check.due("position at it", 1, x::position);
        check.due("the next wished hit", 4, x::next);
        check.due("position at it", 5, x::position);
        check.noElement("no wished hit is left", x::next);
        check.due("the replay stays where it is", 5, x::position);
        x.wish(1, true);
        check.due("a place that is wished now", 5, x::next);
        check.due("position at the last", 6, x::position);
        check.noElement("next at the end", x::next);
        check.due("replay again", 6, x::replay);
        check.due("position again", 0, x::position);
        x.wish(0, false);
        check.due("a place that is not wished now", 2, x::next);
        x.wish(1, false);
        check.noElement("nothing is wished", x::next);
        check.due("the replay stays there", 3, x::position);
    }

    private static void replayKeepsItsOrder() {
        EventTracer x = withProbes("a", "*", 1);
        x.addProcessor(100, 2);
        x.addProcessor(0, 2);
        x.addProcess(999);
        x.wish(0, true);
        x.hit(0, 0, 0);     // 0
        x.hit(1, 0, 0);     // 1
        x.send(0);          // 2
        check.due("replay", 3, x::replay);
        check.due("the order of the start", "1 0 2", () -> orderOf(x));
        x.receive(0, 1);
        x.hit(0, 0, 0);
        x.hit(0, 0, 0);
        check.due("the order now", "1 3 4 5", () -> orderOf(x));
        check.due("the first of the start", 1, x::next);
        check.due("the second is lost by now", 0, x::next);
        check.noElement("later hits are not in it", x::next);
        check.due("position", 2, x::position);
        check.due("a new replay has the order now", 4, x::replay);
    }

    // ---- promise 40

    private static void meanCost() {
        EventTracer x = withProbes("a", "a", 5, "*", 8);
        place(x, "b");
        place(x, "c");
        x.addProcessor(0, 1);
        x.addProcess(999);
        check.due("meanCost without events", "throws ArithmeticException", x::meanCost);
        x.send(0);
        check.due("meanCost without hits", "throws ArithmeticException", x::meanCost);
        x.hit(0, 0, 0);
        check.due("meanCost of one", 13.0, x::meanCost);
        x.hit(0, 1, 0);
        check.due("meanCost of two", 10.5, x::meanCost);
        x.hit(0, 1, 0);
        check.due("meanCost of three, lost ones included", 29.0 / 3.0, x::meanCost);
        x.removeProbe(1);
        x.pass(200);
        check.due("a hit without a probe", 0, () -> x.hit(0, 2, 0));
        check.due("meanCost is as it was", 29.0 / 3.0, x::meanCost);
        EventTracer y = withProbes("a", "*", 4);
        y.addProcessor(0, 1);
        y.addProcess(0);
        y.hit(0, 0, 0);
        check.due("meanCost where the first event is the only hit", 4.0, y::meanCost);
    }

    // ---- promise 41

    private static void lostShare() {
        EventTracer x = new EventTracer();
        x.addProcessor(0, 2);
        x.addProcessor(0, 1);
        check.due("lostShare without events", "throws ArithmeticException", x::lostShare);
        x.send(0);
        check.due("lostShare of none", 0.0f, x::lostShare);
        sendMany(x, 2);
        check.due("lostShare of a third", 1.0f / 3.0f, x::lostShare);
        x.send(1);
        x.send(1);
        x.send(1);
        check.due("lostShare of a half", 0.5f, x::lostShare);
        x.send(1);
        check.due("lostShare of four of seven", 4.0f / 7.0f, x::lostShare);
    }

    // ---- promise 42

    private static void fingerprint() {
        EventTracer x = new EventTracer();
        x.addProcessor(100, 16);
        x.addProcessor(0, 16);
        check.due("fingerprint of nothing", 7L, x::fingerprint);
        x.send(0);
        check.due("fingerprint of one", 7L * 61, x::fingerprint);
        x.send(1);
        check.due("fingerprint of two", (7L * 61 + 1) * 61, x::fingerprint);
        x.send(0);
        check.due("fingerprint of three", ((7L * 61 + 1) * 61) * 61 + 2, x::fingerprint);
        EventTracer y = full(false);
        long number = 7;
        for (int i = 0; i < y.keptEvents(); i++) {
            number = number * 61 + y.merged(i);
        }
        long overflown = number;
        check.due("fingerprint that overflows", overflown, y::fingerprint);
        check.due("all kept events are in it", 48, y::keptEvents);
    }

    // ---- promise 43

    private static void isConsistent() {
        check.due("isConsistent at the limits", true, () -> full(false).isConsistent());
        check.due("isConsistent with lost events", true, () -> full(true).isConsistent());
        EventTracer x = full(false);
        String before = x.fingerprint() + " " + x.spent(0) + " " + x.events();
        x.isConsistent();
        check.due("isConsistent changes nothing", before, () -> x.fingerprint() + " " + x.spent(0) + " " + x.events());
    }

    // ---- what the tests share

    private static void typeAll(EventTracer x, String text) {
        for (int i = 0; i < text.length(); i++) {
            x.type(text.charAt(i));
        }
    }

    private static int place(EventTracer x, String name) {
        typeAll(x, name);
        return x.addPlace();
    }

    private static int probe(EventTracer x, String pattern, int cost) {
        typeAll(x, pattern);
        return x.addProbe(cost);
    }

    /** A tracer with one place, and with probes of pairs of a pattern and a cost. */
    private static EventTracer withProbes(String name, Object... patternsAndCosts) {
        EventTracer x = new EventTracer();
        place(x, name);
        for (int i = 0; i < patternsAndCosts.length; i += 2) {
            probe(x, (String) patternsAndCosts[i], (Integer) patternsAndCosts[i + 1]);
        }
        return x;
    }

    private static void sendMany(EventTracer x, int count) {
        for (int i = 0; i < count; i++) {
            x.send(0);
        }
    }

    /** Sends a message and receives it some ticks later. */
    private static void exchange(EventTracer x, int from, int to, int ticks) {
        int message = x.send(from);
        x.pass(ticks);
        x.receive(message, to);
    }

    /** A tracer with 60 events: on one processor with a ring of one, or on three with great ones. */
    private static EventTracer full(boolean onOne) {
        EventTracer x = withProbes("a", "*", 1);
        x.addProcess(999);
        for (int i = 0; i < (onOne ? 1 : 3); i++) {
            x.addProcessor(i * 7, onOne ? 1 : 16);
        }
        for (int i = 0; i < 20; i++) {
            x.send(onOne ? 0 : i % 3);
        }
        for (int i = 0; i < 20; i++) {
            x.pass(1);
            if (onOne) {
                x.hit(0, 0, 0);
            } else {
                x.receive(i, (i + 1) % 3);
            }
        }
        for (int i = 0; i < 20; i++) {
            x.hit(onOne ? 0 : i % 3, 0, 0);
        }
        return x;
    }

    private static String shedOf(EventTracer x, int probes, int process) {
        StringBuilder text = new StringBuilder();
        for (int probe = 0; probe < probes; probe++) {
            text.append(x.isShed(probe, process)).append(' ');
        }
        return text.toString().trim();
    }

    private static String ringOf(EventTracer x, int processor) {
        StringBuilder text = new StringBuilder();
        for (int i = 0; i < x.kept(processor); i++) {
            text.append(x.keptAt(processor, i)).append(' ');
        }
        return text.toString().trim();
    }

    private static String correctionsOf(EventTracer x, int processors) {
        StringBuilder text = new StringBuilder();
        for (int processor = 0; processor < processors; processor++) {
            text.append(x.correction(processor)).append(' ');
        }
        return text.toString().trim();
    }

    private static String orderOf(EventTracer x) {
        StringBuilder text = new StringBuilder();
        for (int i = 0; i < x.keptEvents(); i++) {
            text.append(x.merged(i)).append(' ');
        }
        return text.toString().trim();
    }

    private static void expectCauses(EventTracer x, int event, int... effects) {
        for (int other = 0; other < x.events(); other++) {
            int effect = other;
            boolean want = java.util.Arrays.stream(effects).anyMatch(e -> e == effect);
            check.due("causes(" + event + ", " + other + ")", want, () -> x.causes(event, effect));
            check.due("causesByPairs(" + event + ", " + other + ")", want, () -> x.causesByPairs(event, effect));
        }
    }
}
