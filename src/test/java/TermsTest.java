/** The sentences of the document's "Terms", each where it is nearly not so. */
public final class TermsTest {
    private static final Check CHECK = new Check("TermsTest");

    public static void main(String[] args) {
        numberedFromZero();
        oneValveAtEachEnd();
        openAtFirst();
        stuckStays();
        shutValvesStopWater();
        sourceItselfIsNotDry();
        noSourceNoWater();
        segmentsNumberedByFirstParts();
        nodesAheadOfPipes();
        segmentsGrowTogether();
        regionByStuckAndOpen();
        regionIsThePipeAlone();
        ringOfJustOneSide();
        setsAreSums();
        longestChain();
        distanceOfSources();
        waysOfWater();
        flushedFromTheWetEnd();
        flushedByRisingDistances();
        CHECK.finish();
    }

    /** "each numbered from 0 on" */
    private static void numberedFromZero() {
        ValveWalk walk = new ValveWalk();
        for (int node = 0; node < 12; node++) {
            boolean isSource = node == 5;
            CHECK.answers("nodes from 0 on", walk, x -> x.addNode(isSource), node);
        }
        for (int pipe = 0; pipe < 16; pipe++) {
            int from = pipe % 11;
            CHECK.answers("pipes from 0 on", walk, x -> x.addPipe(from, from + 1, 1, 0), pipe);
        }
        for (int valve = 0; valve < 12; valve++) {
            int pipe = 15 - valve;
            CHECK.answers("valves from 0 on", walk, x -> x.addValve(pipe, pipe % 2), valve);
        }
    }

    /** "At each end of a pipe there may be one valve, between the pipe and the node there." */
    private static void oneValveAtEachEnd() {
        ValveWalk walk = Nets.row(3, 5, 1);
        CHECK.answers("none yet", walk, x -> x.segments(), 1);
        CHECK.answers("one end of it", walk, x -> x.addValve(0, 1), 0);
        CHECK.answers("apart from the node there", walk, x -> x.segmentOfNode(1), 1);
        CHECK.answers("not from the other node", walk, x -> x.segmentOfPipe(0), 0);
        CHECK.answers("nor the node from other pipes", walk, x -> x.segmentOfPipe(1), 1);
        CHECK.answers("the same node, another pipe", walk, x -> x.addValve(1, 0), 1);
        CHECK.answers("three segments", walk, x -> x.segments(), 3);
        CHECK.answers("the other end", walk, x -> x.addValve(0, 0), 2);
        CHECK.answers("four segments", walk, x -> x.segments(), 4);
    }

    /** "A valve is open, at first": the new one too when others are shut or stuck. */
    private static void openAtFirst() {
        ValveWalk walk = Nets.sized(12, 16, 11);
        for (int valve = 0; valve < 11; valve++) {
            walk.turn(valve, true);
            walk.setStuck(valve, true);
        }
        CHECK.answers("the 12th", walk, x -> x.addValve(15, 1), 11);
        CHECK.answers("is not stuck", walk, x -> Check.bit(x.setStuck(11, false)), 0);
        CHECK.answers("is open", walk, x -> Check.bit(x.turn(11, true)), 0);
    }

    /** "and it may be stuck: then it stays as it is" */
    private static void stuckStays() {
        ValveWalk open = Nets.valvedRow(2, 1, 9);
        open.setStuck(0, true);
        CHECK.answers("open stays open", open, x -> x.supplied(), 9);
        Check.said(open, x -> Check.bit(x.turn(0, true)));
        CHECK.answers("it cannot be shut", open, x -> x.supplied(), 9);
        open.setStuck(0, false);
        CHECK.answers("not stuck any more, open", open, x -> x.supplied(), 9);
        ValveWalk shut = Nets.valvedRow(2, 1, 9);
        shut.turn(0, true);
        shut.setStuck(0, true);
        CHECK.answers("shut stays shut", shut, x -> x.supplied(), 0);
        Check.said(shut, x -> Check.bit(x.turn(0, false)));
        CHECK.answers("it cannot be opened", shut, x -> x.supplied(), 0);
        shut.setStuck(0, false);
        CHECK.answers("not stuck any more, shut", shut, x -> x.supplied(), 0);
        CHECK.answers("turns again", shut, x -> Check.bit(x.turn(0, false)), 1);
        CHECK.answers("open again", shut, x -> x.supplied(), 9);
    }

    /** "Water goes over parts that are joined, but not by valves that are shut." */
    private static void shutValvesStopWater() {
        for (int valve = 0; valve < 12; valve++) {
            ValveWalk walk = Nets.valvedRow(7, 1, 1);
            walk.turn(valve, true);
            for (int node = 0; node < 7; node++) {
                int asked = node;
                long due = Check.bit(2 * node > valve);
                String what = "node " + node + " behind valve " + valve;
                CHECK.answers(what, walk, x -> Check.bit(x.isNodeDry(asked)), due);
            }
            for (int pipe = 0; pipe < 6; pipe++) {
                int asked = pipe;
                long due = Check.bit(2 * pipe + 1 > valve);
                String what = "pipe " + pipe + " behind valve " + valve;
                CHECK.answers(what, walk, x -> Check.bit(x.isPipeDry(asked)), due);
            }
            CHECK.answers("supplied before valve " + valve, walk, x -> x.supplied(), (valve + 1) / 2);
        }
    }

    /** "a source itself is not dry" */
    private static void sourceItselfIsNotDry() {
        ValveWalk walk = Nets.valvedRow(3, 1, 1);
        walk.setSource(0, false);
        walk.setSource(1, true);
        walk.turn(1, true);
        walk.turn(2, true);
        CHECK.answers("with all its valves shut", walk, x -> Check.bit(x.isNodeDry(1)), 0);
        CHECK.answers("beside it, end 1", walk, x -> Check.bit(x.isPipeDry(0)), 1);
        CHECK.answers("beside it, end 0", walk, x -> Check.bit(x.isPipeDry(1)), 1);
        CHECK.answers("behind the pipe", walk, x -> Check.bit(x.isNodeDry(2)), 1);
        walk.setSource(1, false);
        CHECK.answers("no source any more", walk, x -> Check.bit(x.isNodeDry(1)), 1);
        for (int node = 0; node < 12; node++) {
            int source = node;
            ValveWalk alone = Nets.sized(12, 0, 0);
            alone.setSource(0, false);
            alone.setSource(source, true);
            for (int other = 0; other < 12; other++) {
                int asked = other;
                long due = Check.bit(other != node);
                CHECK.answers("alone " + node, alone, x -> Check.bit(x.isNodeDry(asked)), due);
            }
        }
    }

    /** "A part is dry if no water can come to it from any source" */
    private static void noSourceNoWater() {
        ValveWalk walk = Nets.sized(12, 16, 12);
        walk.setSource(0, false);
        for (int number = 0; number < 12; number++) {
            int asked = number;
            CHECK.answers("no source, node", walk, x -> Check.bit(x.isNodeDry(asked)), 1);
            CHECK.answers("no source, pipe", walk, x -> Check.bit(x.isPipeDry(asked + 4)), 1);
            CHECK.answers("no source, distance", walk, x -> x.distance(asked), -1);
        }
        CHECK.answers("no source, supplied", walk, x -> x.supplied(), 0);
        walk.setSource(11, true);
        CHECK.answers("any source", walk, x -> x.supplied(), 136);
    }

    /** "They are numbered from 0 on by their first parts": one of a late node behind all early. */
    private static void segmentsNumberedByFirstParts() {
        ValveWalk walk = new ValveWalk();
        for (int node = 0; node < 6; node++) {
            walk.addNode(false);
        }
        walk.addPipe(5, 1, 1, 0);
        walk.addPipe(4, 2, 1, 0);
        walk.addPipe(3, 0, 1, 0);
        CHECK.answers("three of them", walk, x -> x.segments(), 3);
        segmentsAre("pairs", walk, new int[] {0, 1, 2, 0, 2, 1}, new int[] {1, 2, 0});
        walk.addValve(1, 0);
        segmentsAre("node 4 alone", walk, new int[] {0, 1, 2, 0, 3, 1}, new int[] {1, 2, 0});
        walk.addValve(1, 1);
        segmentsAre("pipe 1 alone", walk, new int[] {0, 1, 2, 0, 3, 1}, new int[] {1, 4, 0});
    }

    /** "where all nodes come ahead of all pipes, both by rising numbers" */
    private static void nodesAheadOfPipes() {
        ValveWalk walk = Nets.row(4, 1, 0);
        walk.addValve(2, 0);
        walk.addValve(2, 1);
        walk.addValve(0, 1);
        walk.addValve(0, 0);
        segmentsAre("pipes behind nodes", walk, new int[] {0, 1, 1, 2}, new int[] {3, 1, 4});
        walk.addNode(false);
        segmentsAre("a new node goes between", walk, new int[] {0, 1, 1, 2, 3}, new int[] {4, 1, 5});
        walk.addPipe(4, 0, 1, 0);
        segmentsAre("a new pipe merges", walk, new int[] {0, 1, 1, 2, 0}, new int[] {3, 1, 4, 0});
    }

    private static void segmentsAre(String what, ValveWalk walk, int[] nodes, int[] pipes) {
        for (int node = 0; node < nodes.length; node++) {
            int asked = node;
            CHECK.answers("15 " + what, walk, x -> x.segmentOfNode(asked), nodes[node]);
        }
        for (int pipe = 0; pipe < pipes.length; pipe++) {
            int asked = pipe;
            CHECK.answers("16 " + what, walk, x -> x.segmentOfPipe(asked), pipes[pipe]);
            CHECK.answers("17 " + what, walk, x -> x.segmentByMerging(asked), pipes[pipe]);
        }
    }

    /** "the greatest sets": a chain that is merged from both ends is one segment in the end. */
    private static void segmentsGrowTogether() {
        ValveWalk walk = Nets.sized(12, 0, 0);
        int[][] links = {{0, 11}, {10, 1}, {9, 2}, {3, 8}, {7, 4}, {5, 6}, {11, 10}, {9, 8}, {7, 6},
            {1, 2}, {4, 3}};
        for (int pipe = 0; pipe < links.length; pipe++) {
            int from = links[pipe][0];
            int to = links[pipe][1];
            walk.addPipe(from, to, 1, 0);
            CHECK.answers("fewer and fewer", walk, x -> x.segments(), 11 - pipe);
        }
        segmentsAre("all in one", walk, new int[12], new int[11]);
    }

    /** "to which one comes from it without any valve, or by valves that are open and stuck" */
    private static void regionByStuckAndOpen() {
        ringOfPipe1Is("open, not stuck", 0b001100, 0, 0);
        ringOfPipe1Is("open and stuck", 0b010100, 0, 0b001000);
        ringOfPipe1Is("shut, not stuck", 0b000100, 0b001000, 0);
        ringOfPipe1Is("shut and stuck", 0b000100, 0b001000, 0b001000);
        ringOfPipe1Is("two that are stuck", 0b100100, 0, 0b011000);
        ringOfPipe1Is("three that are stuck", 0b000100, 0, 0b111000);
        ringOfPipe1Is("stuck, then shut", 0b000100, 0b010000, 0b001000);
        ringOfPipe1Is("stuck, then shut and stuck", 0b000100, 0b010000, 0b011000);
        ringOfPipe1Is("stuck behind one that is not", 0b001100, 0, 0b110000);
        ringOfPipe1Is("stuck behind one that is shut", 0b000100, 0b001000, 0b110000);
        ringOfPipe1Is("stuck on the other side", 0b001010, 0, 0b000100);
    }

    private static void ringOfPipe1Is(String what, long due, int shut, int stuck) {
        ValveWalk walk = Nets.valvedRow(4, 1, 1);
        for (int valve = 0; valve < 6; valve++) {
            walk.turn(valve, (shut >> valve & 1) == 1);
            walk.setStuck(valve, (stuck >> valve & 1) == 1);
        }
        CHECK.answers("18 " + what, walk, x -> x.ring(1), due);
    }

    /** "The region of a break of a pipe is that pipe", though another one lies beside it. */
    private static void regionIsThePipeAlone() {
        ValveWalk walk = Nets.valvedRow(2, 1, 9);
        walk.addPipe(0, 1, 1, 20);
        CHECK.answers("18 the pipe alone", walk, x -> x.ring(0), 3);
        CHECK.answers("19 the pipe alone", walk, x -> x.cutOff(0), 9);
        CHECK.same("18 the other one's region has the source", Check.said(walk, x -> x.ring(1)),
            "throws.IllegalStateException");
    }

    /** "of which just one of both sides, the pipe and the node, is of the region" */
    private static void ringOfJustOneSide() {
        ValveWalk walk = Nets.sized(3, 0, 0);
        walk.setSource(0, false);
        walk.setSource(2, true);
        walk.addPipe(0, 1, 1, 2);
        walk.addPipe(0, 1, 1, 4);
        walk.addPipe(1, 2, 1, 8);
        walk.addPipe(2, 1, 1, 16);
        walk.addValve(0, 0);
        walk.addValve(2, 0);
        walk.addValve(3, 1);
        walk.addValve(3, 0);
        CHECK.answers("18 both sides are of it", walk, x -> x.ring(1), 0b0110);
        CHECK.answers("19 both sides are of it", walk, x -> x.cutOff(1), 6);
        CHECK.answers("18 from the valve's pipe", walk, x -> x.ring(0), 0b0110);
        CHECK.answers("18 neither side is of it", walk, x -> x.ring(3), 0b1100);
        CHECK.answers("19 neither side is of it", walk, x -> x.cutOff(3), 16);
        walk.addValve(0, 1);
        CHECK.answers("18 now the pipe is apart", walk, x -> x.ring(0), 0b10001);
        CHECK.answers("18 now the node is apart", walk, x -> x.ring(1), 0b10111);
    }

    /** "1 for the valve 0, 2 for the valve 1, 4 for the valve 2, and so on" */
    private static void setsAreSums() {
        ValveWalk walk = new ValveWalk();
        for (int node = 0; node < 12; node++) {
            walk.addNode(node == 11);
        }
        for (int pipe = 0; pipe < 12; pipe++) {
            walk.addPipe(11, pipe % 11, pipe + 1, 1);
            walk.addValve(pipe, 0);
        }
        for (int pipe = 1; pipe < 11; pipe++) {
            int asked = pipe;
            CHECK.answers("18 one valve", walk, x -> x.ring(asked), 1 << pipe);
            CHECK.answers("21 one valve", walk, x -> x.fewestByTrying(asked), 1 << pipe);
            CHECK.answers("20 one valve", walk, x -> x.fewest(asked), 1);
        }
        for (int pipe : new int[] {0, 11}) {
            CHECK.answers("18 the first and the last", walk, x -> x.ring(pipe), 2049);
            CHECK.answers("21 the first and the last", walk, x -> x.fewestByTrying(pipe), 2049);
            CHECK.answers("20 the first and the last", walk, x -> x.fewest(pipe), 2);
        }
        CHECK.answers("24 the last", walk, x -> x.walk(10, 2048), 11);
    }

    /** 25 parts in a row, from the pipe 12 over all nodes, against their numbers, to the pipe 0. */
    private static void longestChain() {
        ValveWalk walk = Nets.sized(12, 0, 0);
        walk.addPipe(11, 0, 1, 7);
        for (int pipe = 1; pipe < 12; pipe++) {
            walk.addPipe(pipe - 1, pipe, 1, 1);
        }
        walk.addPipe(11, 0, 1, 9);
        walk.addValve(0, 0);
        walk.addValve(12, 1);
        walk.setSource(0, false);
        CHECK.answers("14 the longest chain", walk, x -> x.segments(), 1);
        CHECK.answers("16 its first part", walk, x -> x.segmentOfPipe(0), 0);
        CHECK.answers("16 its last part", walk, x -> x.segmentOfPipe(12), 0);
        CHECK.answers("17 its first part", walk, x -> x.segmentByMerging(0), 0);
        CHECK.answers("17 its last part", walk, x -> x.segmentByMerging(12), 0);
        CHECK.answers("18 from its first part", walk, x -> x.ring(0), 0);
        CHECK.answers("18 from its last part", walk, x -> x.ring(12), 0);
        walk.setSource(11, true);
        walk.turn(0, true);
        walk.turn(1, true);
        CHECK.answers("12 water at its end", walk, x -> Check.bit(x.isPipeDry(0)), 0);
        CHECK.answers("13 water all along", walk, x -> x.supplied(), 27);
        CHECK.answers("22 at its end", walk, x -> x.distance(0), 11);
        CHECK.answers("20 no valve in it", walk, x -> x.fewest(0), -1);
    }

    /** "that of a source is 0" */
    private static void distanceOfSources() {
        ValveWalk walk = Nets.sized(12, 16, 12);
        for (int valve = 0; valve < 12; valve++) {
            walk.turn(valve, true);
        }
        for (int node = 0; node < 12; node++) {
            walk.setSource(node, true);
        }
        for (int node = 0; node < 12; node++) {
            int asked = node;
            CHECK.answers("22 all are sources", walk, x -> x.distance(asked), 0);
        }
        ValveWalk two = Nets.row(3, 1, 1);
        two.setSource(1, true);
        CHECK.answers("22 beside a source", two, x -> x.distance(1), 0);
        CHECK.answers("22 by the nearer one", two, x -> x.distance(2), 1);
        two.setSource(1, false);
        CHECK.answers("22 no source any more", two, x -> x.distance(1), 1);
    }

    /** "the least length of all ways by which water can come to it from a source" */
    private static void waysOfWater() {
        for (int end = 0; end < 2; end++) {
            ValveWalk walk = Nets.sized(2, 0, 0);
            walk.addPipe(0, 1, 98, 1);
            walk.addPipe(1, 0, 99, 1);
            walk.addValve(0, end);
            CHECK.answers("22 the shorter", walk, x -> x.distance(1), 98);
            walk.turn(0, true);
            CHECK.answers("22 a half of it is no way", walk, x -> x.distance(1), 99);
            walk.setStuck(0, true);
            CHECK.answers("22 stuck shut", walk, x -> x.distance(1), 99);
            walk.setStuck(0, false);
            walk.turn(0, false);
            walk.setStuck(0, true);
            CHECK.answers("22 stuck open", walk, x -> x.distance(1), 98);
        }
        ValveWalk longest = Nets.row(12, 99, 0);
        CHECK.answers("22 the longest of all", longest, x -> x.distance(11), 1089);
        longest.addPipe(0, 11, 99, 0);
        CHECK.answers("22 the other way round", longest, x -> x.distance(11), 99);
        CHECK.answers("22 the farthest now", longest, x -> x.distance(6), 594);
    }

    /** "is flushed from the end at which its node is not dry, and no valve is shut" */
    private static void flushedFromTheWetEnd() {
        for (int source = 0; source < 2; source++) {
            for (int shut = 0; shut < 4; shut++) {
                ValveWalk walk = Nets.valvedRow(2, 1, 1);
                walk.setSource(0, source == 0);
                walk.setSource(1, source == 1);
                walk.turn(0, (shut & 1) != 0);
                walk.turn(1, (shut & 2) != 0);
                boolean isDry = (shut >> source & 1) == 1;
                String due = isDry ? "throws.IndexOutOfBoundsException" : String.valueOf(source);
                String what = "23 source " + source + ", shut " + shut;
                CHECK.same(what, Check.said(walk, x -> x.flushAt(0)), due);
                walk.setStuck(0, true);
                walk.setStuck(1, true);
                CHECK.same(what + ", stuck", Check.said(walk, x -> x.flushAt(0)), due);
                walk.setSource(1 - source, true);
                boolean isOther = (shut >> 1 - source & 1) == 0;
                long both = isDry ? 1 - source : isOther ? 0 : source;
                String dueBoth = shut == 3 ? "throws.IndexOutOfBoundsException" : "" + both;
                CHECK.same(what + ", both", Check.said(walk, x -> x.flushAt(0)), dueBoth);
            }
        }
    }

    /** "by rising distances of the nodes at those ends", not of the nearer one if it is shut off. */
    private static void flushedByRisingDistances() {
        ValveWalk walk = Nets.row(4, 10, 1);
        walk.addPipe(3, 0, 50, 1);
        walk.addValve(0, 1);
        walk.addValve(1, 0);
        // Distances 0, 10, 20, 30.
        orderIs("all open", walk, 0, 7, 2, 4);
        walk.turn(1, true);
        // Distances 0, 10, 60, 50: the pipe 1 is fed from its end 1, the pipe 2 from there too.
        orderIs("round the other way", walk, 0, 7, 5, 3);
        walk.turn(0, true);
        // The node 1 is dry, the pipe 0 is fed from its end 0.
        orderIs("a dry node between", walk, 0, 7, 5, 3);
        walk.setSource(1, true);
        orderIs("a source between", walk, 0, 7, 5, 3);
        walk.turn(1, false);
        // Distances 0, 0, 10, 20.
        orderIs("from the source between", walk, 0, 2, 7, 4);
    }

    private static void orderIs(String what, ValveWalk walk, int... due) {
        for (int place = 0; place < due.length; place++) {
            int at = place;
            CHECK.answers("23 " + what + ", " + place, walk, x -> x.flushAt(at), due[place]);
        }
        String behind = Check.said(walk, x -> x.flushAt(due.length));
        CHECK.same("23 " + what + ", no more", behind, "throws.IndexOutOfBoundsException");
    }
}
