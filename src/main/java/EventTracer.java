import java.util.ArrayList;
import java.util.Arrays;
import java.util.NoSuchElementException;

/** A tracer for a system of several processors. */
public final class EventTracer {
    private static final int MAX_TIME = 1000;
    private static final int MAX_TICKS = 200;
    private static final int WINDOW_TICKS = 100;
    private static final int MAX_PROCESSORS = 4;
    private static final int MAX_OFFSET = 500;
    private static final int MAX_CAPACITY = 16;
    private static final int MAX_PLACES = 10;
    private static final int MAX_PROBES = 6;
    private static final int MAX_COST = 50;
    private static final int MAX_PROCESSES = 4;
    private static final int MAX_BUDGET = 999;
    private static final int MAX_EVENTS = 60;
    private static final int MAX_MESSAGES = 20;
    private static final int MAX_TEXT = 12;
    private static final char HIT = 'h';
    private static final char SEND = 's';
    private static final char RECEIVE = 'r';
    private static final int NONE = -1;

    private int time = 0;
    private final StringBuilder buffer = new StringBuilder();
    private final ArrayList<Place> places = new ArrayList<>();
    private final ArrayList<Probe> probes = new ArrayList<>();
    private final ArrayList<TracedProcess> processes = new ArrayList<>();
    private final ArrayList<Processor> processors = new ArrayList<>();
    private final ArrayList<Message> messages = new ArrayList<>();
    private final ArrayList<Event> events = new ArrayList<>();
    private final Bounds bounds = new Bounds();
    private final Replay replay = new Replay();

    // Rows that calls write anew each time, so that no call has to make its own.
    private final PatternTable patternTable = new PatternTable();
    private final long[] causeSets = new long[MAX_EVENTS];
    private final int[] order = new int[MAX_EVENTS];
    private final int[] mergedOfRing = new int[MAX_PROCESSORS];
    private final int[] heads = new int[MAX_PROCESSORS];

    public EventTracer() {
    }

    // ---- time, places and probes

    public int addProcessor(int offset, int capacity) throws IllegalArgumentException, IllegalStateException {
        if (!isWithin(offset, 0, MAX_OFFSET) || !isWithin(capacity, 1, MAX_CAPACITY)) {
            throw new IllegalArgumentException("the offset or the capacity is out of range");
        }
        if (processors.size() >= MAX_PROCESSORS) {
            throw new IllegalStateException("there are 4 processors");
        }
        processors.add(new Processor(offset, capacity));
        return processors.size() - 1;
    }

    public int now() {
        return time;
    }

    public int pass(int ticks) throws IllegalArgumentException, IllegalStateException {
        if (!isWithin(ticks, 1, MAX_TICKS)) {
            throw new IllegalArgumentException("the number of ticks is out of range");
        }
        if (time + ticks > MAX_TIME) {
            throw new IllegalStateException("the time would be greater than 1000");
        }
        int windowBefore = presentWindow();
        time += ticks;
        if (presentWindow() != windowBefore) {
            beginWindow();
        }
        return time;
    }

    public int type(char character) throws IllegalArgumentException, IllegalStateException {
        if (!isNameSign(character) && !isWildcard(character)) {
            throw new IllegalArgumentException("the character stands in no name and no pattern");
        }
        if (buffer.length() >= MAX_TEXT) {
            throw new IllegalStateException("the buffer contains 12 characters");
        }
        buffer.append(character);
        return buffer.length();
    }

    public int addPlace() throws IllegalArgumentException, IllegalStateException {
        String name = takeBuffer();
        if (!isNewName(name)) {
            throw new IllegalArgumentException("the buffer does not contain a new name");
        }
        if (places.size() >= MAX_PLACES) {
            throw new IllegalStateException("there are 10 places");
        }
        places.add(new Place(name));
        return places.size() - 1;
    }

    public int addProbe(int cost) throws IllegalArgumentException, IllegalStateException {
        String pattern = takeBuffer();
        if (!isWithin(cost, 1, MAX_COST) || pattern.isEmpty()) {
            throw new IllegalArgumentException("the cost is out of range, or the buffer is empty");
        }
        if (probes.size() >= MAX_PROBES) {
            throw new IllegalStateException("6 probes were added");
        }
        probes.add(new Probe(pattern, cost));
        return probes.size() - 1;
    }

    public int removeProbe(int probe) throws IndexOutOfBoundsException, IllegalStateException {
        requireProbe(probe);
        if (!probes.get(probe).isOn) {
            throw new IllegalStateException("the probe was removed before");
        }
        probes.get(probe).isOn = false;
        return probesOn();
    }

    public boolean matches(int probe, int place) throws IndexOutOfBoundsException {
        requireProbe(probe);
        requirePlace(place);
        return isMatchByTrying(probe, place);
    }

    public boolean matchesByTable(int probe, int place) throws IndexOutOfBoundsException {
        requireProbe(probe);
        requirePlace(place);
        return isMatchByTable(probe, place);
    }

    // ---- processes, hits and messages

    public int addProcess(int budget) throws IllegalArgumentException, IllegalStateException {
        if (!isWithin(budget, 0, MAX_BUDGET)) {
            throw new IllegalArgumentException("the budget is out of range");
        }
        if (processes.size() >= MAX_PROCESSES) {
            throw new IllegalStateException("there are 4 processes");
        }
        processes.add(new TracedProcess(budget));
        return processes.size() - 1;
    }

    public int hit(int processor, int place, int process) throws IndexOutOfBoundsException, IllegalStateException {
        requireProcessor(processor);
        requirePlace(place);
        requireProcess(process);
        requireRoomForEvent();
        int firing = firingProbes(place, process);
        if (firing != 0) {
            Event event = addEvent(HIT, processor);
            event.place = place;
            event.process = process;
            event.firedProbes = firing;
            charge(process, firing);
        }
        return Integer.bitCount(firing);
    }

    public int send(int processor) throws IndexOutOfBoundsException, IllegalStateException {
        requireProcessor(processor);
        requireRoomForEvent();
        if (messages.size() >= MAX_MESSAGES) {
            throw new IllegalStateException("there are 20 messages");
        }
        int message = messages.size();
        messages.add(new Message(events.size()));
        addEvent(SEND, processor).message = message;
        return message;
    }

    public int receive(int message, int processor)
            throws IndexOutOfBoundsException, IllegalStateException, UnsupportedOperationException {
        requireMessage(message);
        requireProcessor(processor);
        requireRoomForEvent();
        if (messages.get(message).isReceived) {
            throw new IllegalStateException("the message was received before");
        }
        Event sending = events.get(messages.get(message).sendEvent);
        if (sending.processor == processor) {
            throw new UnsupportedOperationException("the message was sent from this processor");
        }
        messages.get(message).isReceived = true;
        processors.get(processor).countCausesOf(sending);
        Event receiving = addEvent(RECEIVE, processor);
        receiving.message = message;
        bounds.tighten(sending.processor, processor, receiving.localTime - sending.localTime);
        return events.size() - 1;
    }

    public int spent(int process) throws IndexOutOfBoundsException {
        requireProcess(process);
        return processes.get(process).spentInWindow;
    }

    public int spentByEvents(int process) throws IndexOutOfBoundsException {
        requireProcess(process);
        return sumOfHits(process);
    }

    public boolean isShed(int probe, int process) throws IndexOutOfBoundsException {
        requireProbe(probe);
        requireProcess(process);
        return hasBit(processes.get(process).shedProbes, probe);
    }

    public int dearest() throws NoSuchElementException {
        int best = NONE;
        int greatestSum = 0;
        for (int probe = 0; probe < probes.size(); probe++) {
            if (probes.get(probe).costsDue > greatestSum) {
                best = probe;
                greatestSum = probes.get(probe).costsDue;
            }
        }
        if (best == NONE) {
            throw new NoSuchElementException("no probe has fired");
        }
        return best;
    }

    // ---- events and rings

    public int events() {
        return events.size();
    }

    public char kind(int event) throws IndexOutOfBoundsException {
        requireEvent(event);
        return events.get(event).kind;
    }

    public int localTime(int event) throws IndexOutOfBoundsException {
        requireEvent(event);
        return events.get(event).localTime;
    }

    public int processorOf(int event) throws IndexOutOfBoundsException {
        requireEvent(event);
        return events.get(event).processor;
    }

    public int fired(int event) throws IndexOutOfBoundsException, NoSuchElementException {
        requireEvent(event);
        if (events.get(event).kind != HIT) {
            throw new NoSuchElementException("the event is not a hit");
        }
        return events.get(event).firedProbes;
    }

    public int kept(int processor) throws IndexOutOfBoundsException {
        requireProcessor(processor);
        return processors.get(processor).ringSize;
    }

    public int keptAt(int processor, int index) throws IndexOutOfBoundsException, NoSuchElementException {
        requireProcessor(processor);
        if (!isWithin(index, 0, processors.get(processor).ringSize - 1)) {
            throw new NoSuchElementException("there is no such index in the ring");
        }
        return processors.get(processor).ringEvent(index);
    }

    public int lost(int processor) throws IndexOutOfBoundsException {
        requireProcessor(processor);
        return processors.get(processor).lostEvents();
    }

    public int mark(int processor) throws IndexOutOfBoundsException {
        requireProcessor(processor);
        return processors.get(processor).moveMark();
    }

    public int gap(int processor) throws IndexOutOfBoundsException {
        requireProcessor(processor);
        return processors.get(processor).lostSinceMark();
    }

    // ---- clocks, causes and order

    public int bound(int from, int to) throws IndexOutOfBoundsException, NoSuchElementException {
        requireProcessor(from);
        requireProcessor(to);
        if (from == to || !bounds.exists(from, to)) {
            throw new NoSuchElementException("there is no bound");
        }
        return bounds.least(from, to);
    }

    public int correction(int processor) throws IndexOutOfBoundsException {
        requireProcessor(processor);
        return bounds.correctionOf(processor);
    }

    public int correctedTime(int event) throws IndexOutOfBoundsException {
        requireEvent(event);
        return timeInLine(event);
    }

    public boolean causes(int event, int other) throws IndexOutOfBoundsException {
        requireEvent(event);
        requireEvent(other);
        return isCauseByCounts(event, other);
    }

    public boolean causesByPairs(int event, int other) throws IndexOutOfBoundsException {
        requireEvent(event);
        requireEvent(other);
        collectCauseSets();
        return isInCauseSet(event, other);
    }

    public int keptEvents() {
        int sum = 0;
        for (int processor = 0; processor < processors.size(); processor++) {
            sum += processors.get(processor).ringSize;
        }
        return sum;
    }

    public int merged(int index) throws IndexOutOfBoundsException {
        int length = mergeInto(order);
        if (!isWithin(index, 0, length - 1)) {
            throw new IndexOutOfBoundsException("there is no such index in the merged order");
        }
        return order[index];
    }

    // ---- replay and figures

    public boolean wish(int place, boolean isWished) throws IndexOutOfBoundsException {
        requirePlace(place);
        boolean wasWished = places.get(place).isWished;
        places.get(place).isWished = isWished;
        return wasWished;
    }

    public int replay() {
        replay.isStarted = true;
        replay.passed = 0;
        replay.length = mergeInto(replay.order);
        return replay.length;
    }

    public int next() throws IllegalStateException, NoSuchElementException {
        requireReplay();
        for (int index = replay.passed; index < replay.length; index++) {
            if (isWishedHit(replay.order[index])) {
                replay.passed = index + 1;
                return replay.order[index];
            }
        }
        throw new NoSuchElementException("no hit of a wished place follows");
    }

    public int position() throws IllegalStateException {
        requireReplay();
        return replay.passed;
    }

    public double meanCost() throws ArithmeticException {
        int hits = hitEvents();
        if (hits == 0) {
            throw new ArithmeticException("there are no hits");
        }
        return (double) sumOfCostsDue() / (double) hits;
    }

    public float lostShare() throws ArithmeticException {
        if (events.isEmpty()) {
            throw new ArithmeticException("there are no events");
        }
        int lostEvents = events.size() - keptEvents();
        return (float) lostEvents / (float) events.size();
    }

    public long fingerprint() {
        int length = mergeInto(order);
        long number = 7;
        for (int index = 0; index < length; index++) {
            number = number * 61 + order[index];
        }
        return number;
    }

    public boolean isConsistent() {
        return doMatchesAgree() && doSumsAgree() && doCausesAgree() && isOrderCausal();
    }

    // ---- tests of arguments and states

    private static boolean isWithin(int number, int least, int greatest) {
        return number >= least && number <= greatest;
    }

    private void requireProcessor(int processor) {
        if (!isWithin(processor, 0, processors.size() - 1)) {
            throw new IndexOutOfBoundsException("there is no such processor");
        }
    }

    private void requirePlace(int place) {
        if (!isWithin(place, 0, places.size() - 1)) {
            throw new IndexOutOfBoundsException("there is no such place");
        }
    }

    private void requireProbe(int probe) {
        if (!isWithin(probe, 0, probes.size() - 1)) {
            throw new IndexOutOfBoundsException("there is no such probe");
        }
    }

    private void requireProcess(int process) {
        if (!isWithin(process, 0, processes.size() - 1)) {
            throw new IndexOutOfBoundsException("there is no such process");
        }
    }

    private void requireMessage(int message) {
        if (!isWithin(message, 0, messages.size() - 1)) {
            throw new IndexOutOfBoundsException("there is no such message");
        }
    }

    private void requireEvent(int event) {
        if (!isWithin(event, 0, events.size() - 1)) {
            throw new IndexOutOfBoundsException("there is no such event");
        }
    }

    private void requireRoomForEvent() {
        if (events.size() >= MAX_EVENTS) {
            throw new IllegalStateException("there are 60 events");
        }
    }

    private void requireReplay() {
        if (!replay.isStarted) {
            throw new IllegalStateException("no replay was started");
        }
    }

    // ---- names and patterns

    private static boolean isNameSign(char character) {
        return (character >= 'a' && character <= 'z') || character == '.';
    }

    private static boolean isWildcard(char character) {
        return character == '?' || character == '*';
    }

    private String takeBuffer() {
        String content = buffer.toString();
        buffer.setLength(0);
        return content;
    }

    private boolean isNewName(String text) {
        for (int index = 0; index < text.length(); index++) {
            if (isWildcard(text.charAt(index))) {
                return false;
            }
        }
        for (int place = 0; place < places.size(); place++) {
            if (places.get(place).name.equals(text)) {
                return false;
            }
        }
        return !text.isEmpty();
    }

    private int probesOn() {
        int count = 0;
        for (int probe = 0; probe < probes.size(); probe++) {
            if (probes.get(probe).isOn) {
                count++;
            }
        }
        return count;
    }

    private boolean isMatchByTrying(int probe, int place) {
        return canMake(probes.get(probe).pattern, places.get(place).name);
    }

    private boolean isMatchByTable(int probe, int place) {
        return patternTable.isFilledTo(probes.get(probe).pattern, places.get(place).name);
    }

    private static boolean isSignFitting(char ofPattern, char ofName) {
        return ofPattern == '?' || ofPattern == ofName;
    }

    /**
     * Of all that a star can stand for, the shortest that lets the part behind it fit is enough:
     * what an earlier star leaves over, a later one can stand for.
     */
    private static boolean canMake(String pattern, String name) {
        int reached = starFrom(pattern, 0);
        if (!isPartFitting(pattern, 0, reached, name, 0)) {
            return false;
        }
        for (int index = 0; index < pattern.length(); index++) {
            if (pattern.charAt(index) == '*') {
                reached = endBehindStar(pattern, index, name, reached);
                if (reached == NONE) {
                    return false;
                }
            }
        }
        return reached == name.length();
    }

    /** The index of the first star from an index on, or the length if none follows. */
    private static int starFrom(String pattern, int from) {
        for (int index = from; index < pattern.length(); index++) {
            if (pattern.charAt(index) == '*') {
                return index;
            }
        }
        return pattern.length();
    }

    /** Where the part behind a star ends in the name, or NONE if it fits nowhere from the reached index on. */
    private static int endBehindStar(String pattern, int star, String name, int reached) {
        int partEnd = starFrom(pattern, star + 1);
        int partLength = partEnd - star - 1;
        boolean isLastPart = partEnd == pattern.length();
        for (int start = reached; start + partLength <= name.length(); start++) {
            int end = start + partLength;
            boolean isEndRight = !isLastPart || end == name.length();
            if (isEndRight && isPartFitting(pattern, star + 1, partLength, name, start)) {
                return end;
            }
        }
        return NONE;
    }

    private static boolean isPartFitting(String pattern, int from, int length, String name, int start) {
        if (start + length > name.length()) {
            return false;
        }
        for (int index = 0; index < length; index++) {
            if (!isSignFitting(pattern.charAt(from + index), name.charAt(start + index))) {
                return false;
            }
        }
        return true;
    }

    // ---- windows, costs and budgets

    private int presentWindow() {
        return time / WINDOW_TICKS;
    }

    private void beginWindow() {
        for (int process = 0; process < processes.size(); process++) {
            processes.get(process).spentInWindow = 0;
            processes.get(process).shedProbes = 0;
        }
    }

    private static boolean hasBit(int set, int bit) {
        return (set >> bit & 1) != 0;
    }

    private int firingProbes(int place, int process) {
        int shed = processes.get(process).shedProbes;
        int firing = 0;
        for (int probe = 0; probe < probes.size(); probe++) {
            if (probes.get(probe).isOn && !hasBit(shed, probe) && isMatchByTrying(probe, place)) {
                firing |= 1 << probe;
            }
        }
        return firing;
    }

    private int costOf(int probeSet) {
        int sum = 0;
        for (int probe = 0; probe < probes.size(); probe++) {
            if (hasBit(probeSet, probe)) {
                sum += probes.get(probe).cost;
            }
        }
        return sum;
    }

    private void charge(int process, int firing) {
        for (int probe = 0; probe < probes.size(); probe++) {
            if (hasBit(firing, probe)) {
                probes.get(probe).costsDue += probes.get(probe).cost;
            }
        }
        TracedProcess payer = processes.get(process);
        payer.spentInWindow += costOf(firing);
        if (payer.spentInWindow > payer.budget) {
            payer.shedProbes |= 1 << mostExpensive(firing);
        }
    }

    /** The lowest number wins among equal costs; the set is never empty here. */
    private int mostExpensive(int probeSet) {
        int best = 0;
        int highestCost = 0;
        for (int probe = 0; probe < probes.size(); probe++) {
            if (hasBit(probeSet, probe) && probes.get(probe).cost > highestCost) {
                best = probe;
                highestCost = probes.get(probe).cost;
            }
        }
        return best;
    }

    private int sumOfHits(int process) {
        int sum = 0;
        for (int number = 0; number < events.size(); number++) {
            Event event = events.get(number);
            if (event.kind == HIT && event.process == process && event.window == presentWindow()) {
                sum += costOf(event.firedProbes);
            }
        }
        return sum;
    }

    private int sumOfCostsDue() {
        int sum = 0;
        for (int probe = 0; probe < probes.size(); probe++) {
            sum += probes.get(probe).costsDue;
        }
        return sum;
    }

    private int hitEvents() {
        int count = 0;
        for (int number = 0; number < events.size(); number++) {
            if (events.get(number).kind == HIT) {
                count++;
            }
        }
        return count;
    }

    // ---- events, causes and the merged order

    private Event addEvent(char kind, int processor) {
        Processor home = processors.get(processor);
        Event event = new Event(kind, processor, home.happened, home.causeCounts.clone());
        event.localTime = time + home.offset;
        event.window = presentWindow();
        home.keep(events.size());
        home.causeCounts[processor] = home.happened;
        events.add(event);
        return event;
    }

    private int timeInLine(int event) {
        Event described = events.get(event);
        return described.localTime - bounds.correctionOf(described.processor);
    }

    /** The causes of an event on one processor are always the first ones there, so their count tells them. */
    private boolean isCauseByCounts(int event, int other) {
        Event first = events.get(event);
        return first.rank < events.get(other).causeCounts[first.processor];
    }

    private boolean isDirectCause(int event, int other) {
        Event first = events.get(event);
        Event second = events.get(other);
        if (first.processor == second.processor) {
            return event < other;
        }
        return first.kind == SEND && second.kind == RECEIVE && first.message == second.message;
    }

    /** A direct cause always has the lower number, so its own set is complete when it is needed. */
    private void collectCauseSets() {
        for (int other = 0; other < events.size(); other++) {
            long set = 0;
            for (int event = 0; event < other; event++) {
                if (isDirectCause(event, other)) {
                    set |= causeSets[event] | 1L << event;
                }
            }
            causeSets[other] = set;
        }
    }

    private boolean isInCauseSet(int event, int other) {
        return (causeSets[other] >> event & 1) != 0;
    }

    private int mergeInto(int[] target) {
        for (int processor = 0; processor < processors.size(); processor++) {
            mergedOfRing[processor] = 0;
            setHead(processor);
        }
        int length = keptEvents();
        for (int index = 0; index < length; index++) {
            int processor = nextRing();
            if (processor == NONE) {
                return index;
            }
            target[index] = heads[processor];
            mergedOfRing[processor]++;
            setHead(processor);
        }
        return length;
    }

    /** The head of a ring is its oldest event that is not merged yet. */
    private void setHead(int processor) {
        Processor home = processors.get(processor);
        int count = mergedOfRing[processor];
        heads[processor] = count < home.ringSize ? home.ringEvent(count) : NONE;
    }

    /** Events of one ring cause each other in turn, so only the head of a ring can be next. */
    private int nextRing() {
        int best = NONE;
        for (int processor = 0; processor < processors.size(); processor++) {
            int head = heads[processor];
            if (head != NONE && isReady(head) && (best == NONE || isEarlier(head, heads[best]))) {
                best = processor;
            }
        }
        return best;
    }

    /** Where the head of a ring is no cause, no later event of that ring is. */
    private boolean isReady(int event) {
        for (int processor = 0; processor < processors.size(); processor++) {
            int head = heads[processor];
            if (head != NONE && isCauseByCounts(head, event)) {
                return false;
            }
        }
        return true;
    }

    private boolean isEarlier(int event, int other) {
        int difference = timeInLine(event) - timeInLine(other);
        return difference < 0 || (difference == 0 && event < other);
    }

    private boolean isWishedHit(int event) {
        Event described = events.get(event);
        return described.kind == HIT && places.get(described.place).isWished;
    }

    // ---- invariants

    private boolean doMatchesAgree() {
        for (int probe = 0; probe < probes.size(); probe++) {
            for (int place = 0; place < places.size(); place++) {
                if (isMatchByTrying(probe, place) != isMatchByTable(probe, place)) {
                    return false;
                }
            }
        }
        return true;
    }

    private boolean doSumsAgree() {
        for (int process = 0; process < processes.size(); process++) {
            if (processes.get(process).spentInWindow != sumOfHits(process)) {
                return false;
            }
        }
        return true;
    }

    private boolean doCausesAgree() {
        collectCauseSets();
        for (int event = 0; event < events.size(); event++) {
            for (int other = 0; other < events.size(); other++) {
                if (isCauseByCounts(event, other) != isInCauseSet(event, other)) {
                    return false;
                }
            }
        }
        return true;
    }

    private boolean isOrderCausal() {
        int length = mergeInto(order);
        for (int later = 0; later < length; later++) {
            for (int earlier = 0; earlier < later; earlier++) {
                if (isCauseByCounts(order[later], order[earlier])) {
                    return false;
                }
            }
        }
        return true;
    }

    // ---- the parts of the system

    private static final class Place {
        final String name;
        boolean isWished = false;

        Place(String name) {
            this.name = name;
        }
    }

    private static final class Probe {
        final String pattern;
        final int cost;
        boolean isOn = true;
        int costsDue = 0;

        Probe(String pattern, int cost) {
            this.pattern = pattern;
            this.cost = cost;
        }
    }

    private static final class TracedProcess {
        final int budget;
        int spentInWindow = 0;
        int shedProbes = 0;

        TracedProcess(int budget) {
            this.budget = budget;
        }
    }

    private static final class Message {
        final int sendEvent;
        boolean isReceived = false;

        Message(int sendEvent) {
            this.sendEvent = sendEvent;
        }
    }

    /** The place, process and probes are those of a hit, the message that of a send or a receive. */
    private static final class Event {
        final char kind;
        final int processor;
        final int rank;
        final int[] causeCounts;
        int localTime = 0;
        int window = 0;
        int place = 0;
        int process = 0;
        int firedProbes = 0;
        int message = 0;

        Event(char kind, int processor, int rank, int[] causeCounts) {
            this.kind = kind;
            this.processor = processor;
            this.rank = rank;
            this.causeCounts = causeCounts;
        }
    }

    private static final class Processor {
        final int offset;
        final int capacity;
        final int[] ring = new int[MAX_CAPACITY];
        // How many events of each processor would cause an event that happened here now.
        final int[] causeCounts = new int[MAX_PROCESSORS];
        int ringStart = 0;
        int ringSize = 0;
        int happened = 0;
        int happenedAtMark = 0;

        Processor(int offset, int capacity) {
            this.offset = offset;
            this.capacity = capacity;
        }

        void keep(int event) {
            if (ringSize == capacity) {
                ringStart = slot(1);
                ringSize--;
            }
            ring[slot(ringSize)] = event;
            ringSize++;
            happened++;
        }

        private int slot(int index) {
            int straight = ringStart + index;
            return straight < capacity ? straight : straight - capacity;
        }

        int ringEvent(int index) {
            return ring[slot(index)];
        }

        int lostEvents() {
            return happened - ringSize;
        }

        int moveMark() {
            int sinceMark = happened - happenedAtMark;
            happenedAtMark = happened;
            return sinceMark;
        }

        /** The lost events are always the first ones, so those before the mark are taken off. */
        int lostSinceMark() {
            return Math.max(0, lostEvents() - happenedAtMark);
        }

        void countCausesOf(Event sending) {
            for (int processor = 0; processor < MAX_PROCESSORS; processor++) {
                causeCounts[processor] = Math.max(causeCounts[processor], sending.causeCounts[processor]);
            }
            causeCounts[sending.processor] = Math.max(causeCounts[sending.processor], sending.rank + 1);
        }
    }

    private static final class Bounds {
        // Far above every sum of differences.
        private static final int MISSING = 1000000;

        private final int[] leastSums = new int[MAX_PROCESSORS * MAX_PROCESSORS];
        private final int[] corrections = new int[MAX_PROCESSORS];

        Bounds() {
            Arrays.fill(leastSums, MISSING);
        }

        boolean exists(int from, int to) {
            return leastSums[from * MAX_PROCESSORS + to] != MISSING;
        }

        int least(int from, int to) {
            return leastSums[from * MAX_PROCESSORS + to];
        }

        int correctionOf(int processor) {
            return corrections[processor];
        }

        /**
         * The differences along a circle add up to the time that passed in it, which is never
         * negative; so no sequence needs to come twice through a processor.
         */
        void tighten(int from, int to, int difference) {
            lower(from, to, difference);
            for (int via = 0; via < MAX_PROCESSORS; via++) {
                lowerVia(via);
            }
            for (int processor = 1; processor < MAX_PROCESSORS; processor++) {
                corrections[processor] = computeCorrection(processor);
            }
        }

        private void lower(int from, int to, int sum) {
            if (sum < least(from, to)) {
                leastSums[from * MAX_PROCESSORS + to] = sum;
            }
        }

        private void lowerVia(int via) {
            for (int from = 0; from < MAX_PROCESSORS; from++) {
                for (int to = 0; to < MAX_PROCESSORS; to++) {
                    if (exists(from, via) && exists(via, to)) {
                        lower(from, to, least(from, via) + least(via, to));
                    }
                }
            }
        }

        private int computeCorrection(int processor) {
            boolean hasBoundTo = exists(0, processor);
            boolean hasBoundBack = exists(processor, 0);
            if (hasBoundTo && hasBoundBack) {
                return Math.floorDiv(least(0, processor) - least(processor, 0), 2);
            }
            if (hasBoundTo) {
                return least(0, processor);
            }
            return hasBoundBack ? -least(processor, 0) : 0;
        }
    }

    private static final class Replay {
        final int[] order = new int[MAX_EVENTS];
        int length = 0;
        int passed = 0;
        boolean isStarted = false;
    }

    /** Tells for each beginning of a pattern and of a name whether the one can make the other. */
    private static final class PatternTable {
        private static final int WIDTH = MAX_TEXT + 1;

        private final boolean[] cells = new boolean[WIDTH * WIDTH];

        boolean isFilledTo(String pattern, String name) {
            for (int ofPattern = 0; ofPattern <= pattern.length(); ofPattern++) {
                for (int ofName = 0; ofName <= name.length(); ofName++) {
                    cells[ofPattern * WIDTH + ofName] = isCellTrue(pattern, ofPattern, name, ofName);
                }
            }
            return cell(pattern.length(), name.length());
        }

        private boolean cell(int ofPattern, int ofName) {
            return cells[ofPattern * WIDTH + ofName];
        }

        private boolean isCellTrue(String pattern, int ofPattern, String name, int ofName) {
            if (ofPattern == 0) {
                return ofName == 0;
            }
            char last = pattern.charAt(ofPattern - 1);
            if (last == '*') {
                return cell(ofPattern - 1, ofName) || (ofName > 0 && cell(ofPattern, ofName - 1));
            }
            return ofName > 0
                    && isSignFitting(last, name.charAt(ofName - 1))
                    && cell(ofPattern - 1, ofName - 1);
        }
    }
}
