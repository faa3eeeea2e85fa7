/**
 * A planner for a network of water pipes: segments between valves, the valves to be shut for a
 * break, customers who are cut off, the order in which pipes are flushed, and walks of the crew.
 *
 * <p>Sets of nodes, parts and valves are held as sums of bits. The bits of the nodes stand below
 * those of the pipes, so that a set of nodes is a set of parts too.
 */
public final class ValveWalk {
    /** There is none. */
    public static final int NONE = -1;

    private static final int MOST_NODES = 12;
    private static final int MOST_PIPES = 16;
    private static final int MOST_VALVES = 12;
    private static final int MOST_PARTS = MOST_NODES + MOST_PIPES;
    private static final int MOST_LENGTH = 99;
    private static final int MOST_CUSTOMERS = 99;
    private static final int MOST_STOPS = 6;
    private static final int ENDS = 2;
    private static final int ALL_VALVES = (1 << MOST_VALVES) - 1;
    // Longer than any way or walk, and small enough that some dozens of it sum up to an int.
    private static final int FAR = 1_000_000;

    private final Network network;
    private final Segments parting;
    private final Breaks breaks;
    private final Flushing flushing;
    private final Walks walks;

    /** An empty network. */
    public ValveWalk() {
        network = new Network();
        parting = new Segments(network);
        breaks = new Breaks(network);
        flushing = new Flushing(network);
        walks = new Walks(network);
    }

    // ---- the network

    /** Adds a node and returns its number. */
    public int addNode(boolean isSource) throws IllegalStateException {
        if (network.nodeCount() >= MOST_NODES) {
            throw new IllegalStateException("there are 12 nodes");
        }
        return network.putNode(isSource);
    }

    /** Adds a pipe without valves and returns its number. */
    public int addPipe(int from, int to, int length, int customers)
            throws IndexOutOfBoundsException, IllegalArgumentException, IllegalStateException {
        requireNode(from);
        requireNode(to);
        if (from == to) {
            throw new IllegalArgumentException("both nodes are the same");
        }
        if (length < 1 || length > MOST_LENGTH) {
            throw new IllegalArgumentException("the length is not 1 to 99");
        }
        if (customers < 0 || customers > MOST_CUSTOMERS) {
            throw new IllegalArgumentException("the customers are not 0 to 99");
        }
        if (network.pipeCount() >= MOST_PIPES) {
            throw new IllegalStateException("there are 16 pipes");
        }
        return network.putPipe(from, to, length, customers);
    }

    /** Adds an open valve, which is not stuck, and returns its number. */
    public int addValve(int pipe, int end)
            throws IndexOutOfBoundsException, IllegalArgumentException, IllegalStateException {
        requirePipe(pipe);
        if (end < 0 || end >= ENDS) {
            throw new IllegalArgumentException("the end is neither 0 nor 1");
        }
        if (network.valveBitAt(pipe, end) != 0) {
            throw new IllegalStateException("there is a valve");
        }
        if (network.valveCount() >= MOST_VALVES) {
            throw new IllegalStateException("there are 12 valves");
        }
        return network.putValve(pipe, end);
    }

    /** Makes a node a source, or none; returns whether it was one. */
    public boolean setSource(int node, boolean isSource) throws IndexOutOfBoundsException {
        requireNode(node);
        return network.markSource(node, isSource);
    }

    /** Tells that a valve is stuck, or is not any more; returns whether it was. */
    public boolean setStuck(int valve, boolean isStuck) throws IndexOutOfBoundsException {
        requireValve(valve);
        return network.markStuck(valve, isStuck);
    }

    /** Shuts a valve, or opens it; returns whether it was shut. */
    public boolean turn(int valve, boolean isShut)
            throws IndexOutOfBoundsException, IllegalStateException {
        requireValve(valve);
        if (network.isStuck(valve)) {
            throw new IllegalStateException("the valve is stuck");
        }
        return network.markShut(valve, isShut);
    }

    /** Returns how many nodes there are. */
    public int nodes() {
        return network.nodeCount();
    }

    /** Returns how many pipes there are. */
    public int pipes() {
        return network.pipeCount();
    }

    /** Returns how many valves there are. */
    public int valves() {
        return network.valveCount();
    }

    // ---- water; nothing from here on changes anything

    /** Tells whether a node is dry. */
    public boolean isNodeDry(int node) throws IndexOutOfBoundsException {
        requireNode(node);
        return isDry(node);
    }

    /** Tells whether a pipe is dry. */
    public boolean isPipeDry(int pipe) throws IndexOutOfBoundsException {
        requirePipe(pipe);
        return isDry(partOfPipe(pipe));
    }

    /** Returns how many customers all pipes that are not dry have, together. */
    public int supplied() {
        return network.customersOf(network.wetBehind(0));
    }

    // ---- segments

    /** Returns how many segments there are. */
    public int segments() {
        return parting.count();
    }

    /** Returns the segment of a node, found by walking over the parts. */
    public int segmentOfNode(int node) throws IndexOutOfBoundsException {
        requireNode(node);
        return parting.numberByWalking(node);
    }

    /** Returns the segment of a pipe, found by walking over the parts. */
    public int segmentOfPipe(int pipe) throws IndexOutOfBoundsException {
        requirePipe(pipe);
        return parting.numberByWalking(partOfPipe(pipe));
    }

    /** Returns the same, found by merging sets of parts, pipe by pipe. */
    public int segmentByMerging(int pipe) throws IndexOutOfBoundsException {
        requirePipe(pipe);
        return parting.numberByMerging(partOfPipe(pipe));
    }

    // ---- breaks

    /** Returns the set of the valves of the ring of a break. */
    public int ring(int pipe) throws IndexOutOfBoundsException, IllegalStateException {
        requirePipe(pipe);
        return breaks.ringOf(regionWithoutSource(pipe));
    }

    /** Returns how many customers lose their water if the ring of a break is shut. */
    public int cutOff(int pipe) throws IndexOutOfBoundsException, IllegalStateException {
        requirePipe(pipe);
        return breaks.customersLost(regionWithoutSource(pipe));
    }

    /** Returns how many valves have to be shut so that a pipe is dry, found by ways of water. */
    public int fewest(int pipe) throws IndexOutOfBoundsException {
        requirePipe(pipe);
        return breaks.countWays(pipe);
    }

    /** Returns the least set of the fewest valves with which a pipe is dry, found by trying. */
    public int fewestByTrying(int pipe) throws IndexOutOfBoundsException {
        requirePipe(pipe);
        return breaks.trySets(pipe);
    }

    // ---- flushing and walking

    /** Returns the distance of a node, NONE if it is dry. */
    public int distance(int node) throws IndexOutOfBoundsException {
        requireNode(node);
        return flushing.distanceOf(node);
    }

    /** Returns 2 times the pipe at a place in the order of flushing, and the end, together. */
    public int flushAt(int place) throws IndexOutOfBoundsException {
        int flushed = flushing.pipeAndEndAt(place);
        if (flushed == NONE) {
            throw new IndexOutOfBoundsException("there is no such place");
        }
        return flushed;
    }

    /** Returns the least length of a walk from a node to the nodes of some valves. */
    public int walk(int node, int set) throws IndexOutOfBoundsException, IllegalArgumentException {
        requireNode(node);
        if (set < 0 || set >= 1 << network.valveCount()) {
            throw new IllegalArgumentException("the set has a valve that there is not");
        }
        if (Integer.bitCount(set) > MOST_STOPS) {
            throw new IllegalArgumentException("the set has more than 6 valves");
        }
        return walks.leastLength(node, set);
    }

    // ---- what the calls share

    private void requireNode(int node) {
        if (node < 0 || node >= network.nodeCount()) {
            throw new IndexOutOfBoundsException("there is no such node");
        }
    }

    private void requirePipe(int pipe) {
        if (pipe < 0 || pipe >= network.pipeCount()) {
            throw new IndexOutOfBoundsException("there is no such pipe");
        }
    }

    private void requireValve(int valve) {
        if (valve < 0 || valve >= network.valveCount()) {
            throw new IndexOutOfBoundsException("there is no such valve");
        }
    }

    private boolean isDry(int part) {
        return !hasBit(network.wetBehind(0), part);
    }

    private int regionWithoutSource(int pipe) {
        int region = breaks.regionOf(pipe);
        if ((region & network.sources()) != 0) {
            throw new IllegalStateException("the region has a source");
        }
        return region;
    }

    private static int partOfPipe(int pipe) {
        return MOST_NODES + pipe;
    }

    private static boolean hasBit(int set, int number) {
        return (set >> number & 1) != 0;
    }

    private static int withBit(int set, int number, boolean isIn) {
        return isIn ? set | 1 << number : set & ~(1 << number);
    }

    /** What there is, and where one comes to in it. */
    private static final class Network {
        private int nodeCount;
        private int pipeCount;
        private int valveCount;
        private int sources;
        private int shut;
        private int stuck;
        private final int[] lengths = new int[MOST_PIPES];
        private final int[] customers = new int[MOST_PIPES];
        // By joint, which is 2 times a pipe and one of its ends, together.
        private final int[] nodeAt = new int[ENDS * MOST_PIPES];
        private final int[] valveBitAt = new int[ENDS * MOST_PIPES];
        private final int[] sidesAt = new int[ENDS * MOST_PIPES];
        private final int[] jointOf = new int[MOST_VALVES];

        int nodeCount() {
            return nodeCount;
        }

        int pipeCount() {
            return pipeCount;
        }

        int valveCount() {
            return valveCount;
        }

        int sources() {
            return sources;
        }

        int putNode(boolean isSource) {
            int node = nodeCount;
            nodeCount++;
            markSource(node, isSource);
            return node;
        }

        int putPipe(int from, int to, int length, int customersOnIt) {
            int pipe = pipeCount;
            pipeCount++;
            lengths[pipe] = length;
            customers[pipe] = customersOnIt;
            join(pipe, 0, from);
            join(pipe, 1, to);
            return pipe;
        }

        private void join(int pipe, int end, int node) {
            int joint = ENDS * pipe + end;
            nodeAt[joint] = node;
            sidesAt[joint] = 1 << node | 1 << partOfPipe(pipe);
        }

        int putValve(int pipe, int end) {
            int valve = valveCount;
            valveCount++;
            int joint = ENDS * pipe + end;
            valveBitAt[joint] = 1 << valve;
            jointOf[valve] = joint;
            return valve;
        }

        boolean markSource(int node, boolean isSource) {
            boolean was = hasBit(sources, node);
            sources = withBit(sources, node, isSource);
            return was;
        }

        boolean markStuck(int valve, boolean isStuck) {
            boolean was = hasBit(stuck, valve);
            stuck = withBit(stuck, valve, isStuck);
            return was;
        }

        boolean markShut(int valve, boolean isShut) {
            boolean was = hasBit(shut, valve);
            shut = withBit(shut, valve, isShut);
            return was;
        }

        boolean isStuck(int valve) {
            return hasBit(stuck, valve);
        }

        boolean hasPart(int part) {
            return part < MOST_NODES ? part < nodeCount : part < partOfPipe(pipeCount);
        }

        int lengthOf(int pipe) {
            return lengths[pipe];
        }

        int nodeAt(int pipe, int end) {
            return nodeAt[ENDS * pipe + end];
        }

        /** The set of the valve at an end of a pipe, 0 if there is no valve. */
        int valveBitAt(int pipe, int end) {
            return valveBitAt[ENDS * pipe + end];
        }

        boolean isShutAt(int pipe, int end) {
            return (valveBitAt(pipe, end) & shut) != 0;
        }

        int pipeOfValve(int valve) {
            return jointOf[valve] / ENDS;
        }

        int nodeOfValve(int valve) {
            return nodeAt[jointOf[valve]];
        }

        /** The valves that are open and not stuck. */
        int closable() {
            return (1 << valveCount) - 1 & ~shut & ~stuck;
        }

        /** The valves that bound regions: all but those that are stuck while open. */
        int bounding() {
            return ALL_VALVES & ~(stuck & ~shut);
        }

        /** The parts to which one comes from some parts by no valve of a set. */
        int reach(int start, int barriers) {
            int reached = start;
            // Each round but the last reaches one more part at the least.
            for (int round = 0; round < MOST_PARTS; round++) {
                int before = reached;
                for (int joint = 0; joint < ENDS * pipeCount; joint++) {
                    boolean isOpen = (valveBitAt[joint] & barriers) == 0;
                    if (isOpen && (reached & sidesAt[joint]) != 0) {
                        reached |= sidesAt[joint];
                    }
                }
                if (reached == before) {
                    break;
                }
            }
            return reached;
        }

        /** The parts that are not dry while the valves of a set are shut with those that are. */
        int wetBehind(int alsoShut) {
            return reach(sources, shut | alsoShut);
        }

        int customersOf(int parts) {
            int sum = 0;
            for (int pipe = 0; pipe < pipeCount; pipe++) {
                if (hasBit(parts, partOfPipe(pipe))) {
                    sum += customers[pipe];
                }
            }
            return sum;
        }
    }

    /** The segments, numbered by their first parts. */
    private static final class Segments {
        private final Network network;
        // By part: an earlier part that it was merged with, or itself if it is its set's first.
        private final int[] earlier = new int[MOST_PARTS];

        Segments(Network network) {
            this.network = network;
        }

        int count() {
            return countBegunBelow(MOST_PARTS);
        }

        int numberByWalking(int part) {
            int first = Integer.numberOfTrailingZeros(segmentWith(part));
            return countBegunBelow(first);
        }

        private int segmentWith(int part) {
            return network.reach(1 << part, ALL_VALVES);
        }

        private int countBegunBelow(int end) {
            int seen = 0;
            int count = 0;
            for (int part = 0; part < end; part++) {
                if (network.hasPart(part) && !hasBit(seen, part)) {
                    seen |= segmentWith(part);
                    count++;
                }
            }
            return count;
        }

        int numberByMerging(int part) {
            mergePipes();
            int first = firstOfSet(part);
            int number = 0;
            for (int other = 0; other < first; other++) {
                if (network.hasPart(other) && firstOfSet(other) == other) {
                    number++;
                }
            }
            return number;
        }

        private void mergePipes() {
            for (int part = 0; part < MOST_PARTS; part++) {
                earlier[part] = part;
            }
            for (int pipe = 0; pipe < network.pipeCount(); pipe++) {
                for (int end = 0; end < ENDS; end++) {
                    if (network.valveBitAt(pipe, end) == 0) {
                        merge(partOfPipe(pipe), network.nodeAt(pipe, end));
                    }
                }
            }
        }

        private void merge(int part, int other) {
            int first = firstOfSet(part);
            int otherFirst = firstOfSet(other);
            earlier[Math.max(first, otherFirst)] = Math.min(first, otherFirst);
        }

        private int firstOfSet(int part) {
            int first = part;
            for (int step = 0; step < MOST_PARTS && earlier[first] != first; step++) {
                first = earlier[first];
            }
            return first;
        }
    }

    /**
     * Regions and rings of breaks, and the fewest valves for them. Water goes freely over a
     * region, so only the valves between regions matter when some are to be shut.
     */
    private static final class Breaks {
        private final Network network;
        // By valve: the regions on its pipe's side and on its node's side.
        private final int[] pipeRegions = new int[MOST_VALVES];
        private final int[] nodeRegions = new int[MOST_VALVES];
        // By valve: 1 if a way of water leads from its pipe to its node, -1 if back, 0 if none.
        private final int[] ways = new int[MOST_VALVES];
        // The valves that a search crossed, in its order; by valve: in which direction, as above.
        private final int[] crossed = new int[MOST_VALVES];
        private final int[] directions = new int[MOST_VALVES];

        Breaks(Network network) {
            this.network = network;
        }

        int regionOf(int pipe) {
            return regionWith(partOfPipe(pipe));
        }

        private int regionWith(int part) {
            return network.reach(1 << part, network.bounding());
        }

        private int regionsWithSources() {
            return network.reach(network.sources(), network.bounding());
        }

        int ringOf(int region) {
            int ring = 0;
            for (int valve = 0; valve < network.valveCount(); valve++) {
                boolean hasPipe = hasBit(region, partOfPipe(network.pipeOfValve(valve)));
                boolean hasNode = hasBit(region, network.nodeOfValve(valve));
                if (hasPipe != hasNode) {
                    ring |= 1 << valve;
                }
            }
            return ring & network.closable();
        }

        int customersLost(int region) {
            int wetNow = network.wetBehind(0);
            int wetThen = network.wetBehind(ringOf(region));
            return network.customersOf(wetNow & ~wetThen);
        }

        /** As many ways of water with no valve in common as there can be, NONE if one has none. */
        int countWays(int pipe) {
            int region = regionOf(pipe);
            int fed = regionsWithSources();
            if ((fed & region) != 0) {
                return NONE;
            }
            findRegionsOfValves();
            for (int valve = 0; valve < MOST_VALVES; valve++) {
                ways[valve] = 0;
            }
            for (int count = 0; count < MOST_VALVES; count++) {
                if (!addWay(fed, region)) {
                    return count;
                }
            }
            return MOST_VALVES;
        }

        private void findRegionsOfValves() {
            for (int valve = 0; valve < network.valveCount(); valve++) {
                pipeRegions[valve] = regionOf(network.pipeOfValve(valve));
                nodeRegions[valve] = regionWith(network.nodeOfValve(valve));
            }
        }

        private boolean addWay(int fed, int region) {
            int reached = fed;
            int crossings = 0;
            // Each round but the last crosses one more valve at the least.
            for (int round = 0; round < MOST_VALVES; round++) {
                int before = reached;
                for (int valve = 0; valve < network.valveCount(); valve++) {
                    int direction = directionAcross(valve, reached);
                    if (direction != 0 && crossings < MOST_VALVES) {
                        crossed[crossings] = valve;
                        directions[valve] = direction;
                        crossings++;
                        reached |= pipeRegions[valve] | nodeRegions[valve];
                    }
                }
                if (reached == before) {
                    break;
                }
            }
            if ((reached & region) == 0) {
                return false;
            }
            keepWayTo(region, crossings);
            return true;
        }

        /** In which direction a search goes over a valve from what it has reached, 0 if in none. */
        private int directionAcross(int valve, int reached) {
            boolean isAtPipe = (reached & pipeRegions[valve]) != 0;
            boolean isAtNode = (reached & nodeRegions[valve]) != 0;
            if (isAtPipe == isAtNode || !hasBit(network.closable(), valve)) {
                return 0;
            }
            int direction = isAtPipe ? 1 : -1;
            // A valve carries one way at the most; going against that way takes it back.
            return ways[valve] == direction ? 0 : direction;
        }

        private void keepWayTo(int region, int crossings) {
            int wanted = region;
            // No region is entered before the one from which it is, so one look back is enough.
            for (int step = crossings - 1; step >= 0; step--) {
                int valve = crossed[step];
                boolean isToNode = directions[valve] > 0;
                int entered = isToNode ? nodeRegions[valve] : pipeRegions[valve];
                if (entered == wanted) {
                    ways[valve] += directions[valve];
                    wanted = isToNode ? pipeRegions[valve] : nodeRegions[valve];
                }
            }
        }

        int trySets(int pipe) {
            int region = regionOf(pipe);
            int fed = regionsWithSources();
            if ((fed & region) != 0) {
                return NONE;
            }
            findRegionsOfValves();
            int closable = network.closable();
            int limit = 1 << network.valveCount();
            int set = 0;
            for (int tried = 0; tried < limit; tried++) {
                boolean isClosable = (set & ~closable) == 0;
                if (isClosable && (wetOver(closable & ~set, fed) & region) == 0) {
                    return set;
                }
                set = setBehind(set, limit);
            }
            return NONE;
        }

        /** The regions to which water comes by some valves, from the ones that are fed. */
        private int wetOver(int openValves, int fed) {
            int wet = fed;
            // Each round but the last crosses one more valve at the least.
            for (int round = 0; round < MOST_VALVES; round++) {
                int before = wet;
                for (int valve = 0; valve < network.valveCount(); valve++) {
                    int sides = pipeRegions[valve] | nodeRegions[valve];
                    if (hasBit(openValves, valve) && (wet & sides) != 0) {
                        wet |= sides;
                    }
                }
                if (wet == before) {
                    break;
                }
            }
            return wet;
        }

        /** The next set by how many valves they have, of those alike the next one as a number. */
        private static int setBehind(int set, int limit) {
            int lowest = set & -set;
            if (lowest == 0) {
                return 1;
            }
            // The lowest run of bits: its top one moves up by one, the others go down to 0.
            int carried = set + lowest;
            int next = carried | (set ^ carried) / lowest >> 2;
            return next < limit ? next : (2 << Integer.bitCount(set)) - 1;
        }
    }

    /** Distances from the sources, and the order of flushing. */
    private static final class Flushing {
        private final Network network;
        // By node: its distance, FAR if it is dry.
        private final int[] distances = new int[MOST_NODES];

        Flushing(Network network) {
            this.network = network;
        }

        int distanceOf(int node) {
            measure();
            return distances[node] < FAR ? distances[node] : NONE;
        }

        private void measure() {
            for (int node = 0; node < MOST_NODES; node++) {
                distances[node] = hasBit(network.sources(), node) ? 0 : FAR;
            }
            // The shortest way comes to no node twice, so it has fewer pipes than there are nodes.
            for (int round = 1; round < network.nodeCount(); round++) {
                for (int pipe = 0; pipe < network.pipeCount(); pipe++) {
                    if (!network.isShutAt(pipe, 0) && !network.isShutAt(pipe, 1)) {
                        shorten(pipe);
                    }
                }
            }
        }

        private void shorten(int pipe) {
            int from = network.nodeAt(pipe, 0);
            int to = network.nodeAt(pipe, 1);
            int length = network.lengthOf(pipe);
            distances[to] = Math.min(distances[to], distances[from] + length);
            distances[from] = Math.min(distances[from], distances[to] + length);
        }

        /** 2 times a pipe and its end, together, NONE if there is no such place. */
        int pipeAndEndAt(int place) {
            measure();
            for (int pipe = 0; pipe < network.pipeCount(); pipe++) {
                if (isFlushed(pipe) && placeOf(pipe) == place) {
                    return ENDS * pipe + endOf(pipe);
                }
            }
            return NONE;
        }

        private int placeOf(int pipe) {
            int place = 0;
            for (int other = 0; other < network.pipeCount(); other++) {
                if (isAhead(other, pipe)) {
                    place++;
                }
            }
            return place;
        }

        private boolean isAhead(int other, int pipe) {
            int difference = distanceAt(other, endOf(other)) - distanceAt(pipe, endOf(pipe));
            return difference < 0 || difference == 0 && other < pipe;
        }

        private boolean isFlushed(int pipe) {
            return distanceAt(pipe, endOf(pipe)) < FAR;
        }

        private int endOf(int pipe) {
            return distanceAt(pipe, 0) <= distanceAt(pipe, 1) ? 0 : 1;
        }

        /** The distance of the node at an end of a pipe, FAR if no water comes in there. */
        private int distanceAt(int pipe, int end) {
            return network.isShutAt(pipe, end) ? FAR : distances[network.nodeAt(pipe, end)];
        }
    }

    /** Walks of the crew, which no valve stops. */
    private static final class Walks {
        private final Network network;
        // By two nodes: the least length of a walk between them, FAR if there is none.
        private final int[] between = new int[MOST_NODES * MOST_NODES];
        // The nodes to come to, those of several valves as often.
        private final int[] stops = new int[MOST_STOPS];
        // By a set of stops and the last one: the least length of a walk over them that ends there.
        private final int[] least = new int[(1 << MOST_STOPS) * MOST_STOPS];

        Walks(Network network) {
            this.network = network;
        }

        int leastLength(int node, int valves) {
            int stopCount = listStops(valves);
            if (stopCount == 0) {
                return 0;
            }
            measure();
            int all = (1 << stopCount) - 1;
            for (int set = 1; set <= all; set++) {
                for (int last = 0; last < stopCount; last++) {
                    if (hasBit(set, last)) {
                        least[set * MOST_STOPS + last] = leastEnding(node, set, last, stopCount);
                    }
                }
            }
            int length = FAR;
            for (int last = 0; last < stopCount; last++) {
                length = Math.min(length, least[all * MOST_STOPS + last]);
            }
            return length < FAR ? length : NONE;
        }

        private int listStops(int valves) {
            int count = 0;
            for (int valve = 0; valve < network.valveCount(); valve++) {
                if (hasBit(valves, valve) && count < MOST_STOPS) {
                    stops[count] = network.nodeOfValve(valve);
                    count++;
                }
            }
            return count;
        }

        private int leastEnding(int node, int set, int last, int stopCount) {
            int before = set & ~(1 << last);
            if (before == 0) {
                return lengthBetween(node, stops[last]);
            }
            int length = FAR;
            for (int stop = 0; stop < stopCount; stop++) {
                if (hasBit(before, stop)) {
                    int step = lengthBetween(stops[stop], stops[last]);
                    length = Math.min(length, least[before * MOST_STOPS + stop] + step);
                }
            }
            return length;
        }

        private int lengthBetween(int node, int other) {
            return between[node * MOST_NODES + other];
        }

        private void measure() {
            for (int node = 0; node < MOST_NODES; node++) {
                for (int other = 0; other < MOST_NODES; other++) {
                    between[node * MOST_NODES + other] = node == other ? 0 : FAR;
                }
            }
            for (int pipe = 0; pipe < network.pipeCount(); pipe++) {
                int from = network.nodeAt(pipe, 0);
                int to = network.nodeAt(pipe, 1);
                shorten(from, to, network.lengthOf(pipe));
                shorten(to, from, network.lengthOf(pipe));
            }
            for (int middle = 0; middle < network.nodeCount(); middle++) {
                shortenBy(middle);
            }
        }

        private void shortenBy(int middle) {
            for (int node = 0; node < network.nodeCount(); node++) {
                for (int other = 0; other < network.nodeCount(); other++) {
                    int length = lengthBetween(node, middle) + lengthBetween(middle, other);
                    shorten(node, other, length);
                }
            }
        }

        private void shorten(int node, int other, int length) {
            int at = node * MOST_NODES + other;
            between[at] = Math.min(between[at], length);
        }
    }
}
