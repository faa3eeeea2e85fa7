/** All that an object tells of its state, as a text; no object is asked 512 calls for it. */
final class Snapshot {
    private Snapshot() {
    }

    /** The maker makes the object once for each part of the text, always in the same state. */
    static String of(Check.Maker maker) {
        StringBuilder text = new StringBuilder();
        tellAnswers(text, maker.make());
        tellWalks(text, maker.make());
        tellValvesAndSources(text, maker.make());
        return text.toString();
    }

    private static void tellAnswers(StringBuilder text, ValveWalk walk) {
        int nodes = walk.nodes();
        int pipes = walk.pipes();
        text.append(nodes).append(' ').append(pipes).append(' ').append(walk.valves());
        text.append(' ').append(walk.supplied()).append(' ').append(walk.segments());
        for (int node = 0; node < nodes; node++) {
            tellNode(text, walk, node);
        }
        for (int pipe = 0; pipe < pipes; pipe++) {
            tellPipe(text, walk, pipe);
        }
        text.append("\nflushed");
        for (int place = 0; place <= pipes; place++) {
            int at = place;
            tell(text, walk, x -> x.flushAt(at));
        }
    }

    private static void tellNode(StringBuilder text, ValveWalk walk, int node) {
        text.append("\nnode");
        tell(text, walk, x -> Check.bit(x.isNodeDry(node)));
        tell(text, walk, x -> x.segmentOfNode(node));
        tell(text, walk, x -> x.distance(node));
    }

    private static void tellPipe(StringBuilder text, ValveWalk walk, int pipe) {
        text.append("\npipe");
        tell(text, walk, x -> Check.bit(x.isPipeDry(pipe)));
        tell(text, walk, x -> x.segmentOfPipe(pipe));
        tell(text, walk, x -> x.segmentByMerging(pipe));
        tell(text, walk, x -> x.ring(pipe));
        tell(text, walk, x -> x.cutOff(pipe));
        tell(text, walk, x -> x.fewest(pipe));
        tell(text, walk, x -> x.fewestByTrying(pipe));
    }

    private static void tellWalks(StringBuilder text, ValveWalk walk) {
        int nodes = walk.nodes();
        int valves = walk.valves();
        for (int node = 0; node < nodes; node++) {
            int from = node;
            text.append("\nwalks");
            for (int valve = 0; valve < valves; valve++) {
                int set = 1 << valve;
                tell(text, walk, x -> x.walk(from, set));
            }
        }
    }

    /** Changes the object: which valves and sources there were, then how far all nodes are apart. */
    private static void tellValvesAndSources(StringBuilder text, ValveWalk walk) {
        int nodes = walk.nodes();
        int valves = walk.valves();
        text.append("\nstuck and shut");
        for (int valve = 0; valve < valves; valve++) {
            int number = valve;
            tell(text, walk, x -> Check.bit(x.setStuck(number, false)));
            tell(text, walk, x -> Check.bit(x.turn(number, false)));
        }
        text.append("\nsources");
        for (int node = 0; node < nodes; node++) {
            int number = node;
            tell(text, walk, x -> Check.bit(x.setSource(number, false)));
        }
        for (int source = 0; source < nodes; source++) {
            walk.setSource(source, true);
            text.append("\ndistances");
            for (int node = 0; node < nodes; node++) {
                int number = node;
                tell(text, walk, x -> x.distance(number));
            }
            walk.setSource(source, false);
        }
    }

    private static void tell(StringBuilder text, ValveWalk walk, Check.Call call) {
        text.append(' ').append(Check.said(walk, call));
    }
}
