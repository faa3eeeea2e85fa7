import java.util.ArrayList;
import java.util.List;

/** The document once more, by other and slower means; it throws as the document says. */
final class Model {
    private static final int NONE = -1;

    private final List<Boolean> sources = new ArrayList<>();
    /** From, to, length, customers, the valves at both ends. */
    private final List<int[]> pipes = new ArrayList<>();
    /** Pipe, end, 1 if shut, 1 if stuck. */
    private final List<int[]> valves = new ArrayList<>();

    /** Tells whether a link of a pipe with a node, by a valve or by none, lets something over. */
    private interface Passage {
        boolean isFree(int valve);
    }

    int addNode(boolean isSource) {
        demand(sources.size() < 12, new IllegalStateException());
        sources.add(isSource);
        return sources.size() - 1;
    }

    int addPipe(int from, int to, int length, int customers) {
        demandIndex(from, sources);
        demandIndex(to, sources);
        boolean isInRange = length >= 1 && length <= 99 && customers >= 0 && customers <= 99;
        demand(from != to && isInRange, new IllegalArgumentException());
        demand(pipes.size() < 16, new IllegalStateException());
        pipes.add(new int[] {from, to, length, customers, NONE, NONE});
        return pipes.size() - 1;
    }

    int addValve(int pipe, int end) {
        demandIndex(pipe, pipes);
        demand(end == 0 || end == 1, new IllegalArgumentException());
        demand(pipes.get(pipe)[4 + end] == NONE && valves.size() < 12, new IllegalStateException());
        pipes.get(pipe)[4 + end] = valves.size();
        valves.add(new int[] {pipe, end, 0, 0});
        return valves.size() - 1;
    }

    boolean setSource(int node, boolean isSource) {
        demandIndex(node, sources);
        return sources.set(node, isSource);
    }

    boolean setStuck(int valve, boolean isStuck) {
        demandIndex(valve, valves);
        return put(valve, 3, isStuck);
    }

    boolean turn(int valve, boolean isShut) {
        demandIndex(valve, valves);
        demand(!isStuck(valve), new IllegalStateException());
        return put(valve, 2, isShut);
    }

    private boolean put(int valve, int place, boolean value) {
        boolean was = valves.get(valve)[place] == 1;
        valves.get(valve)[place] = value ? 1 : 0;
        return was;
    }

    int nodes() {
        return sources.size();
    }

    int pipes() {
        return pipes.size();
    }

    int valves() {
        return valves.size();
    }

    boolean isNodeDry(int node) {
        demandIndex(node, sources);
        return !wet(0)[node];
    }

    boolean isPipeDry(int pipe) {
        demandIndex(pipe, pipes);
        return !wet(0)[nodes() + pipe];
    }

    int supplied() {
        return customersWithout(new boolean[nodes() + pipes()], 0);
    }

    int segments() {
        int most = NONE;
        for (int number : segmentNumbers()) {
            most = Math.max(most, number);
        }
        return most + 1;
    }

    int segmentOfNode(int node) {
        demandIndex(node, sources);
        return segmentNumbers()[node];
    }

    int segmentOfPipe(int pipe) {
        demandIndex(pipe, pipes);
        return segmentNumbers()[nodes() + pipe];
    }

    int segmentByMerging(int pipe) {
        return segmentOfPipe(pipe);
    }

    int ring(int pipe) {
        demandIndex(pipe, pipes);
        boolean[] region = region(pipe);
        for (int node = 0; node < nodes(); node++) {
            demand(!(region[node] && sources.get(node)), new IllegalStateException());
        }
        int ring = 0;
        for (int valve = 0; valve < valves(); valve++) {
            int[] held = valves.get(valve);
            boolean hasPipe = region[nodes() + held[0]];
            if (!isShut(valve) && !isStuck(valve) && hasPipe != region[nodeOf(valve)]) {
                ring += 1 << valve;
            }
        }
        return ring;
    }

    int cutOff(int pipe) {
        return customersWithout(wet(ring(pipe)), 0);
    }

    int fewest(int pipe) {
        int set = fewestByTrying(pipe);
        return set == NONE ? NONE : Integer.bitCount(set);
    }

    int fewestByTrying(int pipe) {
        demandIndex(pipe, pipes);
        int best = NONE;
        for (int set = 0; set < 1 << valves(); set++) {
            boolean isBetter = best == NONE || Integer.bitCount(set) < Integer.bitCount(best);
            if (isBetter && canShut(set) && !wet(set)[nodes() + pipe]) {
                best = set;
            }
        }
        return best;
    }

    private boolean canShut(int set) {
        for (int valve = 0; valve < valves(); valve++) {
            if ((set >> valve & 1) == 1 && (isShut(valve) || isStuck(valve))) {
                return false;
            }
        }
        return true;
    }

    int distance(int node) {
        demandIndex(node, sources);
        int least = NONE;
        for (int source = 0; source < nodes(); source++) {
            if (sources.get(source)) {
                least = lesser(least, leastWay(source, node, new boolean[nodes()], false));
            }
        }
        return least;
    }

    int flushAt(int place) {
        List<long[]> order = new ArrayList<>();
        for (int pipe = 0; pipe < pipes(); pipe++) {
            int first = distanceIn(pipe, 0);
            int second = distanceIn(pipe, 1);
            if (first != NONE || second != NONE) {
                boolean isFirst = second == NONE || first != NONE && first <= second;
                order.add(new long[] {isFirst ? first : second, pipe, isFirst ? 0 : 1});
            }
        }
        demandIndex(place, order);
        order.sort((a, b) -> a[0] != b[0] ? Long.compare(a[0], b[0]) : Long.compare(a[1], b[1]));
        return (int) (2 * order.get(place)[1] + order.get(place)[2]);
    }

    private int distanceIn(int pipe, int end) {
        int valve = pipes.get(pipe)[4 + end];
        return valve != NONE && isShut(valve) ? NONE : distance(pipes.get(pipe)[end]);
    }

    int walk(int node, int set) {
        demandIndex(node, sources);
        boolean isSet = set >= 0 && set < 1 << valves() && Integer.bitCount(set) <= 6;
        demand(isSet, new IllegalArgumentException());
        return leastOrder(node, set);
    }

    private int leastOrder(int node, int set) {
        int least = set == 0 ? 0 : NONE;
        for (int valve = 0; valve < valves(); valve++) {
            if ((set >> valve & 1) == 1) {
                int step = leastWay(node, nodeOf(valve), new boolean[nodes()], true);
                int rest = step == NONE ? NONE : leastOrder(nodeOf(valve), set - (1 << valve));
                least = lesser(least, rest == NONE ? NONE : step + rest);
            }
        }
        return least;
    }

    /** The least length of all ways that come to no node twice; valves may be walked past. */
    private int leastWay(int from, int to, boolean[] isOnWay, boolean isPastValves) {
        if (from == to) {
            return 0;
        }
        isOnWay[from] = true;
        int least = NONE;
        for (int[] pipe : pipes) {
            int next = pipe[0] == from ? pipe[1] : pipe[1] == from ? pipe[0] : NONE;
            boolean isFree = isPastValves || isOpen(pipe[4]) && isOpen(pipe[5]);
            if (next != NONE && !isOnWay[next] && isFree) {
                int rest = leastWay(next, to, isOnWay, isPastValves);
                least = lesser(least, rest == NONE ? NONE : pipe[2] + rest);
            }
        }
        isOnWay[from] = false;
        return least;
    }

    private static int lesser(int length, int other) {
        return length == NONE ? other : other == NONE ? length : Math.min(length, other);
    }

    private int customersWithout(boolean[] without, int alsoShut) {
        boolean[] wet = wet(alsoShut);
        int sum = 0;
        for (int pipe = 0; pipe < pipes(); pipe++) {
            sum += wet[nodes() + pipe] && !without[nodes() + pipe] ? pipes.get(pipe)[3] : 0;
        }
        return sum;
    }

    private boolean[] wet(int alsoShut) {
        boolean[] reached = new boolean[nodes() + pipes()];
        for (int node = 0; node < nodes(); node++) {
            if (sources.get(node)) {
                visit(node, reached, v -> v == NONE || isOpen(v) && (alsoShut >> v & 1) == 0);
            }
        }
        return reached;
    }

    private boolean[] region(int pipe) {
        boolean[] reached = new boolean[nodes() + pipes()];
        visit(nodes() + pipe, reached, v -> v == NONE || isOpen(v) && isStuck(v));
        return reached;
    }

    private int[] segmentNumbers() {
        int[] numbers = new int[nodes() + pipes()];
        boolean[] seen = new boolean[nodes() + pipes()];
        int count = 0;
        for (int part = 0; part < seen.length; part++) {
            if (!seen[part]) {
                boolean[] before = seen.clone();
                visit(part, seen, v -> v == NONE);
                for (int other = 0; other < seen.length; other++) {
                    numbers[other] = seen[other] && !before[other] ? count : numbers[other];
                }
                count++;
            }
        }
        return numbers;
    }

    private void visit(int part, boolean[] reached, Passage passage) {
        if (reached[part]) {
            return;
        }
        reached[part] = true;
        for (int pipe = 0; pipe < pipes(); pipe++) {
            for (int end = 0; end < 2; end++) {
                int node = pipes.get(pipe)[end];
                if (passage.isFree(pipes.get(pipe)[4 + end])) {
                    if (part == node) {
                        visit(nodes() + pipe, reached, passage);
                    } else if (part == nodes() + pipe) {
                        visit(node, reached, passage);
                    }
                }
            }
        }
    }

    private boolean isOpen(int valve) {
        return valve == NONE || !isShut(valve);
    }

    private boolean isShut(int valve) {
        return valves.get(valve)[2] == 1;
    }

    private boolean isStuck(int valve) {
        return valves.get(valve)[3] == 1;
    }

    private int nodeOf(int valve) {
        return pipes.get(valves.get(valve)[0])[valves.get(valve)[1]];
    }

    private static void demandIndex(int index, List<?> list) {
        demand(index >= 0 && index < list.size(), new IndexOutOfBoundsException());
    }

    private static void demand(boolean isMet, RuntimeException otherwise) {
        if (!isMet) {
            throw otherwise;
        }
    }
}
