/** A network that is empty, and one that is full and is asked for one more. */
public final class LimitsTest {
    private static final Check CHECK = new Check("LimitsTest");

    public static void main(String[] args) {
        emptyNetwork();
        emptyNetworkRefuses();
        emptyNetworkGrows();
        atMostTwelveNodes();
        atMostSixteenPipes();
        atMostTwelveValves();
        nodesAloneAreFull();
        pipesAloneAreFull();
        valvesAloneAreFull();
        refusedPartsTakeNoNumber();
        allIsFull();
        fullNetworkAnswers();
        mostCustomers();
        mostSegments();
        lastPipeIsASegment();
        CHECK.finish();
    }

    /** Promise 1: "An empty network." */
    private static void emptyNetwork() {
        CHECK.answers("1, 8 no nodes", Nets.empty(), x -> x.nodes(), 0);
        CHECK.answers("1, 9 no pipes", Nets.empty(), x -> x.pipes(), 0);
        CHECK.answers("1, 10 no valves", Nets.empty(), x -> x.valves(), 0);
        CHECK.answers("1, 13 nobody is supplied", Nets.empty(), x -> x.supplied(), 0);
        CHECK.answers("1, 14 no segments", Nets.empty(), x -> x.segments(), 0);
    }

    private static void emptyNetworkRefuses() {
        refusedWhenEmpty("3 addPipe 0 to 1", x -> x.addPipe(0, 1, 1, 0));
        refusedWhenEmpty("3 addPipe 0 to 0", x -> x.addPipe(0, 0, 0, -1));
        refusedWhenEmpty("4 addValve", x -> x.addValve(0, 0));
        refusedWhenEmpty("4 addValve, no end", x -> x.addValve(0, 2));
        refusedWhenEmpty("5 setSource", x -> Check.bit(x.setSource(0, true)));
        refusedWhenEmpty("6 setStuck", x -> Check.bit(x.setStuck(0, true)));
        refusedWhenEmpty("7 turn", x -> Check.bit(x.turn(0, true)));
        refusedWhenEmpty("11 isNodeDry", x -> Check.bit(x.isNodeDry(0)));
        refusedWhenEmpty("12 isPipeDry", x -> Check.bit(x.isPipeDry(0)));
        refusedWhenEmpty("15 segmentOfNode", x -> x.segmentOfNode(0));
        refusedWhenEmpty("16 segmentOfPipe", x -> x.segmentOfPipe(0));
        refusedWhenEmpty("17 segmentByMerging", x -> x.segmentByMerging(0));
        refusedWhenEmpty("18 ring", x -> x.ring(0));
        refusedWhenEmpty("19 cutOff", x -> x.cutOff(0));
        refusedWhenEmpty("20 fewest", x -> x.fewest(0));
        refusedWhenEmpty("21 fewestByTrying", x -> x.fewestByTrying(0));
        refusedWhenEmpty("22 distance", x -> x.distance(0));
        refusedWhenEmpty("23 flushAt", x -> x.flushAt(0));
        refusedWhenEmpty("24 walk", x -> x.walk(0, 0));
        refusedWhenEmpty("24 walk, no set", x -> x.walk(0, -1));
        refusedWhenEmpty("24 walk, no valve", x -> x.walk(0, 1));
    }

    private static void refusedWhenEmpty(String what, Check.Call call) {
        CHECK.refuses("1, " + what, Nets::empty, call, Check.INDEX);
    }

    /** Numbers begin at 0 for nodes, pipes and valves alike. */
    private static void emptyNetworkGrows() {
        ValveWalk walk = new ValveWalk();
        CHECK.answers("2 first node", walk, x -> x.addNode(false), 0);
        CHECK.answers("2 one node", walk, x -> x.nodes(), 1);
        CHECK.answers("2 no source, so it is dry", walk, x -> Check.bit(x.isNodeDry(0)), 1);
        CHECK.answers("2 second node", walk, x -> x.addNode(true), 1);
        CHECK.answers("2 a source", walk, x -> Check.bit(x.isNodeDry(1)), 0);
        CHECK.answers("3 first pipe", walk, x -> x.addPipe(0, 1, 1, 1), 0);
        CHECK.answers("9 one pipe", walk, x -> x.pipes(), 1);
        CHECK.answers("4 first valve", walk, x -> x.addValve(0, 1), 0);
        CHECK.answers("10 one valve", walk, x -> x.valves(), 1);
        CHECK.answers("8 two nodes", walk, x -> x.nodes(), 2);
    }

    /** Promise 2: "if there are 12 nodes" */
    private static void atMostTwelveNodes() {
        CHECK.answers("2 12th", Nets.sized(11, 16, 12), x -> x.addNode(true), 11);
        CHECK.answers("2 12th", Nets.sized(11, 0, 0), x -> x.addNode(false), 11);
        Check.Maker twelve = () -> Nets.sized(12, 0, 0);
        CHECK.refuses("2 13th, a source", twelve, x -> x.addNode(true), Check.STATE);
        CHECK.refuses("2 13th, none", twelve, x -> x.addNode(false), Check.STATE);
    }

    /** Promise 3: "if there are 16 pipes" */
    private static void atMostSixteenPipes() {
        CHECK.answers("3 16th", Nets.sized(12, 15, 12), x -> x.addPipe(11, 0, 99, 99), 15);
        CHECK.answers("3 16th", Nets.sized(2, 15, 0), x -> x.addPipe(1, 0, 1, 0), 15);
        Check.Maker sixteen = () -> Nets.sized(2, 16, 0);
        CHECK.refuses("3 17th", sixteen, x -> x.addPipe(0, 1, 1, 0), Check.STATE);
        CHECK.refuses("3 17th back", sixteen, x -> x.addPipe(1, 0, 99, 99), Check.STATE);
    }

    /** Promise 4: "or there are 12 valves" */
    private static void atMostTwelveValves() {
        CHECK.answers("4 12th", Nets.sized(12, 16, 11), x -> x.addValve(15, 0), 11);
        CHECK.answers("4 12th", Nets.sized(2, 6, 11), x -> x.addValve(5, 1), 11);
        Check.Maker twelve = () -> Nets.sized(2, 7, 12);
        CHECK.refuses("4 13th at 0", twelve, x -> x.addValve(6, 0), Check.STATE);
        CHECK.refuses("4 13th at 1", twelve, x -> x.addValve(6, 1), Check.STATE);
    }

    private static void nodesAloneAreFull() {
        ValveWalk walk = Nets.sized(12, 0, 0);
        CHECK.answers("3 beside 12 nodes", walk, x -> x.addPipe(11, 10, 1, 1), 0);
        CHECK.answers("4 beside 12 nodes", walk, x -> x.addValve(0, 1), 0);
    }

    private static void pipesAloneAreFull() {
        ValveWalk walk = Nets.sized(2, 16, 0);
        CHECK.answers("2 beside 16 pipes", walk, x -> x.addNode(true), 2);
        CHECK.answers("4 beside 16 pipes", walk, x -> x.addValve(15, 1), 0);
        CHECK.answers("2 beside 16 pipes", walk, x -> x.nodes(), 3);
    }

    private static void valvesAloneAreFull() {
        ValveWalk walk = Nets.sized(2, 6, 12);
        CHECK.answers("2 beside 12 valves", walk, x -> x.addNode(true), 2);
        CHECK.answers("3 beside 12 valves", walk, x -> x.addPipe(2, 1, 1, 1), 6);
        CHECK.answers("10 still 12 valves", walk, x -> x.valves(), 12);
    }

    private static void refusedPartsTakeNoNumber() {
        ValveWalk walk = Nets.sized(2, 1, 1);
        Check.said(walk, x -> x.addPipe(0, 0, 1, 1));
        Check.said(walk, x -> x.addPipe(0, 1, 0, 1));
        Check.said(walk, x -> x.addPipe(0, 2, 1, 1));
        CHECK.answers("3 behind refused ones", walk, x -> x.addPipe(0, 1, 1, 1), 1);
        Check.said(walk, x -> x.addValve(0, 0));
        Check.said(walk, x -> x.addValve(0, 2));
        Check.said(walk, x -> x.addValve(2, 0));
        CHECK.answers("4 behind refused ones", walk, x -> x.addValve(0, 1), 1);
        for (int time = 0; time < 300; time++) {
            Check.said(walk, x -> x.addNode(false));
        }
        CHECK.answers("2 behind refused ones", walk, x -> x.nodes(), 12);
    }

    /** 12 nodes, 16 pipes, 12 valves: nothing more, and all stays. */
    private static void allIsFull() {
        CHECK.answers("8 full", Nets.crowded(), x -> x.nodes(), 12);
        CHECK.answers("9 full", Nets.crowded(), x -> x.pipes(), 16);
        CHECK.answers("10 full", Nets.crowded(), x -> x.valves(), 12);
        CHECK.refuses("2 full, a source", Nets::crowded, x -> x.addNode(true), Check.STATE);
        CHECK.refuses("2 full, none", Nets::crowded, x -> x.addNode(false), Check.STATE);
        for (int from = 0; from < 12; from++) {
            int node = from;
            int next = (from + 5) % 12;
            Check.Call call = x -> x.addPipe(node, next, 1, 99);
            CHECK.refuses("3 full, " + from, Nets::crowded, call, Check.STATE);
        }
        for (int joint = 0; joint < 32; joint++) {
            int pipe = joint / 2;
            int end = joint % 2;
            String what = "4 full, " + pipe + ", " + end;
            CHECK.refuses(what, Nets::crowded, x -> x.addValve(pipe, end), Check.STATE);
        }
    }

    /** The last node, the last pipe and the last valve are as good as the first ones. */
    private static void fullNetworkAnswers() {
        ValveWalk walk = Nets.crowded();
        CHECK.answers("5 the last node", walk, x -> Check.bit(x.setSource(11, true)), 0);
        CHECK.answers("5 the last node", walk, x -> Check.bit(x.setSource(11, true)), 1);
        CHECK.answers("5 the last node", walk, x -> Check.bit(x.setSource(11, false)), 1);
        CHECK.answers("6 the last valve", walk, x -> Check.bit(x.setStuck(11, true)), 0);
        CHECK.answers("6 the last valve", walk, x -> Check.bit(x.setStuck(11, false)), 1);
        CHECK.answers("7 the last valve", walk, x -> Check.bit(x.turn(11, true)), 0);
        CHECK.answers("7 the last valve", walk, x -> Check.bit(x.turn(11, false)), 1);
        CHECK.answers("11 the last node", walk, x -> Check.bit(x.isNodeDry(11)), 0);
        CHECK.answers("12 the last pipe", walk, x -> Check.bit(x.isPipeDry(15)), 0);
        CHECK.answers("22 the last node", walk, x -> x.distance(11), 41);
        CHECK.answers("24 the last node", walk, x -> x.walk(11, 1 << 11), 0);
        CHECK.answers("24 the last valves", walk, x -> x.walk(11, 0b111111000000), 190);
    }

    /** Promise 13 and 19: no more customers than 16 times 99. */
    private static void mostCustomers() {
        ValveWalk walk = new ValveWalk();
        for (int node = 0; node < 12; node++) {
            walk.addNode(node == 0);
        }
        walk.addPipe(0, 1, 99, 99);
        walk.addValve(0, 0);
        for (int pipe = 1; pipe < 16; pipe++) {
            walk.addPipe(1, 1 + (pipe - 1) % 10 + 1, 99, 99);
        }
        CHECK.answers("13 the most", walk, x -> x.supplied(), 1584);
        for (int pipe = 0; pipe < 16; pipe++) {
            int number = pipe;
            CHECK.answers("19 the most, " + pipe, walk, x -> x.cutOff(number), 1584);
            CHECK.answers("18 of the most, " + pipe, walk, x -> x.ring(number), 1);
        }
        walk.turn(0, true);
        CHECK.answers("13 the least", walk, x -> x.supplied(), 0);
        CHECK.answers("19 the least", walk, x -> x.cutOff(15), 0);
    }

    /** Promise 14: 12 nodes, and 6 pipes that have valves at both ends. */
    private static void mostSegments() {
        ValveWalk walk = new ValveWalk();
        for (int node = 0; node < 12; node++) {
            walk.addNode(false);
        }
        for (int pipe = 0; pipe < 6; pipe++) {
            walk.addPipe(2 * pipe + 1, 2 * pipe, 1, 0);
            walk.addValve(pipe, 0);
            walk.addValve(pipe, 1);
        }
        CHECK.answers("14 the most", walk, x -> x.segments(), 18);
        CHECK.answers("15 the last node", walk, x -> x.segmentOfNode(11), 11);
        CHECK.answers("16 the first pipe", walk, x -> x.segmentOfPipe(0), 12);
        CHECK.answers("16 the last pipe", walk, x -> x.segmentOfPipe(5), 17);
        CHECK.answers("17 the first pipe", walk, x -> x.segmentByMerging(0), 12);
        CHECK.answers("17 the last pipe", walk, x -> x.segmentByMerging(5), 17);
        CHECK.answers("14 nodes alone", Nets.sized(12, 0, 0), x -> x.segments(), 12);
        CHECK.answers("14 one node", Nets.sized(1, 0, 0), x -> x.segments(), 1);
        CHECK.answers("14 no valves, all in one", Nets.sized(12, 16, 0), x -> x.segments(), 1);
    }

    /** The last part that there may be is the pipe 15. */
    private static void lastPipeIsASegment() {
        ValveWalk walk = Nets.sized(12, 16, 0);
        walk.addValve(15, 0);
        CHECK.answers("14 not yet apart", walk, x -> x.segments(), 1);
        walk.addValve(15, 1);
        CHECK.answers("14 the last part", walk, x -> x.segments(), 2);
        CHECK.answers("16 the last part", walk, x -> x.segmentOfPipe(15), 1);
        CHECK.answers("17 the last part", walk, x -> x.segmentByMerging(15), 1);
        CHECK.answers("16 the last but one", walk, x -> x.segmentOfPipe(14), 0);
    }
}
