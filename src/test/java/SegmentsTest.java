/** Promises 14 to 17: segments. */
public final class SegmentsTest {
    private static final Check CHECK = new Check("SegmentsTest");

    public static void main(String[] args) {
        withoutValves();
        allValved();
        ofTheFullNet();
        shutAndStuckAreAlike();
        bySeveralWays();
        wrongInputs();
        CHECK.finish();
    }

    private static void withoutValves() {
        CHECK.answers("14 nothing", Nets.empty(), x -> x.segments(), 0);
        CHECK.answers("14 one", Nets.row(12, 1, 1), x -> x.segments(), 1);
        CHECK.answers("15 the only one", Nets.row(12, 1, 1), x -> x.segmentOfNode(11), 0);
        pipeIsIn("16, 17 the only one", Nets.row(12, 1, 1), 10, 0);
        ValveWalk alone = new ValveWalk();
        alone.addNode(false);
        alone.addNode(false);
        CHECK.answers("14 nodes alone", alone, x -> x.segments(), 2);
        CHECK.answers("15 nodes alone", alone, x -> x.segmentOfNode(1), 1);
    }

    /** All parts are apart, nodes ahead of pipes. */
    private static void allValved() {
        ValveWalk walk = Nets.valvedRow(5, 1, 1);
        CHECK.answers("14 all apart", walk, x -> x.segments(), 9);
        for (int node = 0; node < 5; node++) {
            int number = node;
            CHECK.answers("15 all apart", walk, x -> x.segmentOfNode(number), node);
        }
        for (int pipe = 0; pipe < 4; pipe++) {
            pipeIsIn("16, 17 all apart", walk, pipe, 5 + pipe);
        }
        walk.addNode(false);
        CHECK.answers("14 one node more", walk, x -> x.segments(), 10);
        CHECK.answers("15 behind the nodes", walk, x -> x.segmentOfNode(5), 5);
        pipeIsIn("16, 17 behind the new node", walk, 0, 6);
    }

    /** The pipes across join the nodes 0 to 3 with 6 to 9, each row pipe goes with its end 1. */
    private static void ofTheFullNet() {
        ValveWalk walk = Nets.full();
        CHECK.answers("14 full", walk, x -> x.segments(), 8);
        int[] due = {0, 1, 2, 3, 4, 5, 0, 1, 2, 3, 6, 7};
        for (int node = 0; node < 12; node++) {
            int number = node;
            CHECK.answers("15 full, node " + node, walk, x -> x.segmentOfNode(number), due[node]);
            pipeIsIn("16, 17 full, pipe " + (node + 11) % 12, walk, (node + 11) % 12, due[node]);
        }
        pipeIsIn("16, 17 full, across", walk, 15, 3);
    }

    private static void shutAndStuckAreAlike() {
        ValveWalk walk = Nets.mixed();
        CHECK.answers("14 any valve parts", walk, x -> x.segments(), 5);
        CHECK.answers("15 any valve parts", walk, x -> x.segmentOfNode(2), 2);
        pipeIsIn("16, 17 any valve parts", walk, 0, 3);
        pipeIsIn("16, 17 any valve parts", walk, 1, 4);
    }

    /** Two valves round one node do not part it from a pipe with which it is joined otherwise. */
    private static void bySeveralWays() {
        ValveWalk walk = new ValveWalk();
        for (int node = 0; node < 4; node++) {
            walk.addNode(false);
        }
        walk.addPipe(3, 2, 1, 1);
        walk.addPipe(2, 1, 1, 1);
        walk.addPipe(3, 1, 1, 1);
        walk.addPipe(0, 1, 1, 1);
        walk.addValve(0, 1);
        walk.addValve(3, 1);
        CHECK.answers("14 round a valve", walk, x -> x.segments(), 2);
        CHECK.answers("15 round a valve", walk, x -> x.segmentOfNode(3), 1);
        pipeIsIn("16, 17 round a valve", walk, 0, 1);
        pipeIsIn("16, 17 with its end 0", walk, 3, 0);
    }

    private static void pipeIsIn(String what, ValveWalk walk, int pipe, long due) {
        CHECK.answers(what + ", walking", walk, x -> x.segmentOfPipe(pipe), due);
        CHECK.answers(what + ", merging", walk, x -> x.segmentByMerging(pipe), due);
    }

    private static void wrongInputs() {
        CHECK.refuses("15 below", Nets::full, x -> x.segmentOfNode(-1), Check.INDEX);
        CHECK.refuses("15 above", Nets::full, x -> x.segmentOfNode(12), Check.INDEX);
        CHECK.refuses("15 none", Nets::empty, x -> x.segmentOfNode(0), Check.INDEX);
        CHECK.refuses("16 below", Nets::full, x -> x.segmentOfPipe(-1), Check.INDEX);
        CHECK.refuses("16 above", Nets::full, x -> x.segmentOfPipe(16), Check.INDEX);
        CHECK.refuses("17 below", Nets::full, x -> x.segmentByMerging(-1), Check.INDEX);
        CHECK.refuses("17 above", Nets::full, x -> x.segmentByMerging(16), Check.INDEX);
        CHECK.refuses("17 none", Nets::empty, x -> x.segmentByMerging(0), Check.INDEX);
    }
}
