import java.util.ArrayList;
import java.util.Arrays;
import java.util.List;
import java.util.NoSuchElementException;
import java.util.regex.Pattern;

/**
 * The document's words, followed as directly as Java's library allows and without regard to cost:
 * what EventTracer answers is compared with it.
 */
final class PlainTracer {
    private record Happening(char kind, int processor, int time, int place, int process, List<Integer> fired, int message) {
    }

    private final List<int[]> processors = new ArrayList<>(); // offset, capacity, events before the mark
    private final List<String> names = new ArrayList<>();
    private final List<String> patterns = new ArrayList<>();
    private final List<Integer> costs = new ArrayList<>();
    private final List<Integer> removed = new ArrayList<>();
    private final List<Integer> budgets = new ArrayList<>();
    private final List<Integer> wished = new ArrayList<>();
    private final List<String> shed = new ArrayList<>();
    private final List<Happening> happenings = new ArrayList<>();
    private List<Integer> replayed = null;
    private String text = "";
    private int time = 0;
    private int passed = 0;

    int addProcessor(int offset, int capacity) {
        argument(offset >= 0 && offset <= 500 && capacity >= 1 && capacity <= 16);
        state(processors.size() < 4);
        processors.add(new int[] {offset, capacity, 0});
        return processors.size() - 1;
    }

    int now() {
        return time;
    }

    int pass(int ticks) {
        argument(ticks >= 1 && ticks <= 200);
        state(time + ticks <= 1000);
        int before = time;
        time += ticks;
        if (before / 100 < time / 100) {
            shed.clear();
        }
        return time;
    }

    int type(char character) {
        argument("abcdefghijklmnopqrstuvwxyz.?*".indexOf(character) >= 0);
        state(text.length() < 12);
        text += character;
        return text.length();
    }

    int addPlace() {
        String name = text;
        text = "";
        argument(name.matches("[a-z.]+") && !names.contains(name));
        state(names.size() < 10);
        names.add(name);
        return names.size() - 1;
    }

    int addProbe(int cost) {
        String pattern = text;
        text = "";
        argument(cost >= 1 && cost <= 50 && !pattern.isEmpty());
        state(patterns.size() < 6);
        patterns.add(pattern);
        costs.add(cost);
        return patterns.size() - 1;
    }

    int removeProbe(int probe) {
        index(probe, patterns);
        state(!removed.contains(probe));
        removed.add(probe);
        return patterns.size() - removed.size();
    }

    boolean matches(int probe, int place) {
        index(probe, patterns);
        index(place, names);
        String regex = patterns.get(probe).replace(".", "\\.").replace("?", ".").replaceAll("\\*+", ".*");
        return Pattern.matches(regex, names.get(place));
    }

    int addProcess(int budget) {
        argument(budget >= 0 && budget <= 999);
        state(budgets.size() < 4);
        budgets.add(budget);
        return budgets.size() - 1;
    }

    int hit(int processor, int place, int process) {
        index(processor, processors);
        index(place, names);
        index(process, budgets);
        state(happenings.size() < 60);
        List<Integer> fired = new ArrayList<>();
        for (int probe = 0; probe < patterns.size(); probe++) {
            if (!removed.contains(probe) && !isShed(probe, process) && matches(probe, place)) {
                fired.add(probe);
            }
        }
        if (!fired.isEmpty()) {
            happenings.add(new Happening('h', processor, time, place, process, fired, -1));
            if (spent(process) > budgets.get(process)) {
                int most = fired.stream().mapToInt(costs::get).max().getAsInt();
                shed.add(fired.stream().filter(p -> costs.get(p) == most).findFirst().get() + " " + process);
            }
        }
        return fired.size();
    }

    private long messages() {
        return happenings.stream().filter(h -> h.kind() == 's').count();
    }

    private Happening sending(int message) {
        return happenings.stream().filter(h -> h.kind() == 's' && h.message() == message).findFirst().get();
    }

    int send(int processor) {
        index(processor, processors);
        int message = (int) messages();
        state(happenings.size() < 60 && message < 20);
        happenings.add(new Happening('s', processor, time, -1, -1, List.of(), message));
        return message;
    }

    int receive(int message, int processor) {
        if (message < 0 || message >= messages()) {
            throw new IndexOutOfBoundsException();
        }
        index(processor, processors);
        state(happenings.size() < 60);
        state(happenings.stream().noneMatch(h -> h.kind() == 'r' && h.message() == message));
        if (sending(message).processor() == processor) {
            throw new UnsupportedOperationException();
        }
        happenings.add(new Happening('r', processor, time, -1, -1, List.of(), message));
        return happenings.size() - 1;
    }

    int spent(int process) {
        index(process, budgets);
        return happenings.stream()
                .filter(h -> h.kind() == 'h' && h.process() == process && h.time() / 100 == time / 100)
                .mapToInt(this::costOf).sum();
    }

    private int costOf(Happening happening) {
        return happening.fired().stream().mapToInt(costs::get).sum();
    }

    boolean isShed(int probe, int process) {
        index(probe, patterns);
        index(process, budgets);
        return shed.contains(probe + " " + process);
    }

    int dearest() {
        int[] sums = new int[patterns.size()];
        happenings.forEach(h -> h.fired().forEach(p -> sums[p] += costs.get(p)));
        int most = Arrays.stream(sums).max().orElse(0);
        for (int probe = 0; probe < sums.length && most > 0; probe++) {
            if (sums[probe] == most) {
                return probe;
            }
        }
        throw new NoSuchElementException();
    }

    int events() {
        return happenings.size();
    }

    char kind(int event) {
        index(event, happenings);
        return happenings.get(event).kind();
    }

    int localTime(int event) {
        index(event, happenings);
        return localTime(happenings.get(event));
    }

    private int localTime(Happening happening) {
        return happening.time() + processors.get(happening.processor())[0];
    }

    int processorOf(int event) {
        index(event, happenings);
        return happenings.get(event).processor();
    }

    int fired(int event) {
        index(event, happenings);
        element(kind(event) == 'h');
        return happenings.get(event).fired().stream().mapToInt(probe -> (int) Math.pow(2, probe)).sum();
    }

    private List<Integer> eventsOn(int processor) {
        List<Integer> all = new ArrayList<>();
        for (int event = 0; event < happenings.size(); event++) {
            if (processorOf(event) == processor) {
                all.add(event);
            }
        }
        return all;
    }

    private List<Integer> ring(int processor) {
        List<Integer> all = eventsOn(processor);
        return all.subList(Math.max(0, all.size() - processors.get(processor)[1]), all.size());
    }

    int kept(int processor) {
        index(processor, processors);
        return ring(processor).size();
    }

    int keptAt(int processor, int index) {
        index(processor, processors);
        element(index >= 0 && index < kept(processor));
        return ring(processor).get(index);
    }

    int lost(int processor) {
        index(processor, processors);
        return eventsOn(processor).size() - kept(processor);
    }

    int mark(int processor) {
        index(processor, processors);
        int before = processors.get(processor)[2];
        processors.get(processor)[2] = eventsOn(processor).size();
        return eventsOn(processor).size() - before;
    }

    int gap(int processor) {
        index(processor, processors);
        List<Integer> all = eventsOn(processor);
        List<Integer> sinceMark = all.subList(processors.get(processor)[2], all.size());
        return (int) sinceMark.stream().filter(event -> !ring(processor).contains(event)).count();
    }

    /** The least sum over sequences of at most as many messages as there can be, or null. */
    private Integer boundOrNull(int from, int to) {
        Integer[] sums = new Integer[processors.size()];
        sums[from] = 0;
        Integer best = null;
        for (int length = 1; length <= 20; length++) {
            Integer[] longer = sums.clone();
            for (Happening receiving : happenings) {
                if (receiving.kind() == 'r' && sums[sending(receiving.message()).processor()] != null) {
                    Happening sending = sending(receiving.message());
                    int sum = sums[sending.processor()] + localTime(receiving) - localTime(sending);
                    int end = receiving.processor();
                    longer[end] = longer[end] == null ? sum : Math.min(longer[end], sum);
                    if (end == to) {
                        best = best == null ? sum : Math.min(best, sum);
                    }
                }
            }
            sums = longer;
        }
        return best;
    }

    int bound(int from, int to) {
        index(from, processors);
        index(to, processors);
        element(from != to && boundOrNull(from, to) != null);
        return boundOrNull(from, to);
    }

    int correction(int processor) {
        index(processor, processors);
        if (processor == 0) {
            return 0;
        }
        Integer there = boundOrNull(0, processor);
        Integer back = boundOrNull(processor, 0);
        if (there != null && back != null) {
            return (int) Math.floor((there - back) / 2.0);
        }
        return there != null ? there : back != null ? -back : 0;
    }

    int correctedTime(int event) {
        return localTime(event) - correction(processorOf(event));
    }

    private boolean causesDirectly(int event, int other) {
        Happening a = happenings.get(event);
        Happening b = happenings.get(other);
        return (a.processor() == b.processor() && event < other)
                || (a.kind() == 's' && b.kind() == 'r' && a.message() == b.message());
    }

    boolean causes(int event, int other) {
        index(event, happenings);
        index(other, happenings);
        return allCauses()[event][other];
    }

    private boolean[][] allCauses() {
        int count = happenings.size();
        boolean[][] found = new boolean[count][count];
        for (int a = 0; a < count; a++) {
            for (int b = 0; b < count; b++) {
                found[a][b] = causesDirectly(a, b);
            }
        }
        for (int via = 0; via < count; via++) {
            for (int a = 0; a < count; a++) {
                for (int b = 0; b < count; b++) {
                    found[a][b] |= found[a][via] && found[via][b];
                }
            }
        }
        return found;
    }

    int keptEvents() {
        int sum = 0;
        for (int processor = 0; processor < processors.size(); processor++) {
            sum += kept(processor);
        }
        return sum;
    }

    private List<Integer> order() {
        List<Integer> left = new ArrayList<>();
        for (int processor = 0; processor < processors.size(); processor++) {
            left.addAll(ring(processor));
        }
        int[] corrections = new int[processors.size()];
        Arrays.setAll(corrections, this::correction);
        boolean[][] causes = allCauses();
        List<Integer> order = new ArrayList<>();
        while (!left.isEmpty()) {
            Integer best = null;
            for (Integer event : left) {
                if (left.stream().noneMatch(other -> causes[other][event])) {
                    long key = (localTime(event) - corrections[processorOf(event)]) * 100L + event;
                    if (best == null || key < (localTime(best) - corrections[processorOf(best)]) * 100L + best) {
                        best = event;
                    }
                }
            }
            left.remove(best);
            order.add(best);
        }
        return order;
    }

    int merged(int index) {
        List<Integer> order = order();
        index(index, order);
        return order.get(index);
    }

    boolean wish(int place, boolean isWished) {
        index(place, names);
        boolean before = wished.contains(place);
        wished.remove((Integer) place);
        if (isWished) {
            wished.add(place);
        }
        return before;
    }

    int replay() {
        replayed = order();
        passed = 0;
        return replayed.size();
    }

    int next() {
        state(replayed != null);
        for (int i = passed; i < replayed.size(); i++) {
            if (wished.contains(happenings.get(replayed.get(i)).place())) {
                passed = i + 1;
                return replayed.get(i);
            }
        }
        throw new NoSuchElementException();
    }

    int position() {
        state(replayed != null);
        return passed;
    }

    double meanCost() {
        long hits = happenings.stream().filter(h -> h.kind() == 'h').count();
        if (hits == 0) {
            throw new ArithmeticException();
        }
        return (double) happenings.stream().mapToInt(this::costOf).sum() / (double) hits;
    }

    float lostShare() {
        if (happenings.isEmpty()) {
            throw new ArithmeticException();
        }
        return (float) (happenings.size() - keptEvents()) / (float) happenings.size();
    }

    long fingerprint() {
        long number = 7;
        for (int event : order()) {
            number = number * 61 + event;
        }
        return number;
    }

    private static void argument(boolean isRight) {
        if (!isRight) {
            throw new IllegalArgumentException();
        }
    }

    private static void state(boolean isRight) {
        if (!isRight) {
            throw new IllegalStateException();
        }
    }

    private static void element(boolean isThere) {
        if (!isThere) {
            throw new NoSuchElementException();
        }
    }

    private static void index(int number, List<?> list) {
        if (number < 0 || number >= list.size()) {
            throw new IndexOutOfBoundsException();
        }
    }
}
