/** The example of README.md, call by call. */
public final class ReadmeTest {
    private static final Check CHECK = new Check("ReadmeTest");

    public static void main(String[] args) {
        ValveWalk plan = new ValveWalk();
        CHECK.answers("works", plan, x -> x.addNode(true), 0);
        CHECK.answers("square", plan, x -> x.addNode(false), 1);
        CHECK.answers("main", plan, x -> x.addPipe(0, 1, 7, 3), 0);
        CHECK.answers("valve", plan, x -> x.addValve(0, 0), 0);
        CHECK.answers("segment of the works", plan, x -> x.segmentOfNode(0), 0);
        CHECK.answers("segment of the main", plan, x -> x.segmentOfPipe(0), 1);
        CHECK.answers("ring", plan, x -> x.ring(0), 1);
        CHECK.answers("cut off", plan, x -> x.cutOff(0), 3);
        CHECK.answers("fewest", plan, x -> x.fewest(0), 1);
        CHECK.answers("fewest by trying", plan, x -> x.fewestByTrying(0), 1);
        CHECK.answers("distance", plan, x -> x.distance(1), 7);
        CHECK.answers("flushed first", plan, x -> x.flushAt(0), 0);
        CHECK.answers("turn", plan, x -> Check.bit(x.turn(0, true)), 0);
        CHECK.answers("dry", plan, x -> Check.bit(x.isNodeDry(1)), 1);
        CHECK.answers("no distance", plan, x -> x.distance(1), ValveWalk.NONE);
        CHECK.answers("walk", plan, x -> x.walk(1, 1), 7);
        CHECK.finish();
    }
}
