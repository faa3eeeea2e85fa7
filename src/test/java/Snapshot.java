/** All that an object tells of its state, as a text; it takes some 270 calls at the most. */
final class Snapshot {
    private Snapshot() {
    }

    static String of(ValveWalk walk) {
        StringBuilder text = new StringBuilder();
        text.append(walk.nodes()).append(' ').append(walk.pipes()).append(' ').append(walk.valves());
        text.append(' ').append(walk.supplied()).append(' ').append(walk.segments());
        for (int node = 0; node < walk.nodes(); node++) {
            tellNode(text, walk, node);
        }
        for (int pipe = 0; pipe < walk.pipes(); pipe++) {
            tellPipe(text, walk, pipe);
        }
        for (int place = 0; place <= walk.pipes(); place++) {
            int at = place;
            tell(text, walk, x -> x.flushAt(at));
        }
        // These change the object, so they come last.
        for (int valve = 0; valve < walk.valves(); valve++) {
            int number = valve;
            tell(text, walk, x -> x.walk(0, 1 << number));
            tell(text, walk, x -> Check.bit(x.setStuck(number, false)));
            tell(text, walk, x -> Check.bit(x.turn(number, false)));
        }
        for (int node = 0; node < walk.nodes(); node++) {
            int number = node;
            tell(text, walk, x -> Check.bit(x.setSource(number, false)));
        }
        return text.toString();
    }

    private static void tellNode(StringBuilder text, ValveWalk walk, int node) {
        text.append("\nnode");
        tell(text, walk, x -> Check.bit(x.isNodeDry(node)));
        tell(text, walk, x -> x.segmentOfNode(node));
        tell(text, walk, x -> x.distance(node));
    }

    private static void tellPipe(StringBuilder text, ValveWalk walk, int pipe) {
        text.append("\npipe");
        tell(text, walk, x -> Check.bit(x.isPipeDry(pipe)));
        tell(text, walk, x -> x.segmentOfPipe(pipe));
        tell(text, walk, x -> x.segmentByMerging(pipe));
        tell(text, walk, x -> x.ring(pipe));
        tell(text, walk, x -> x.cutOff(pipe));
        tell(text, walk, x -> x.fewest(pipe));
        tell(text, walk, x -> x.fewestByTrying(pipe));
    }

    private static void tell(StringBuilder text, ValveWalk walk, Check.Call call) {
        text.append(' ').append(Check.said(walk, call));
    }
}
