/** Promises 11 to 13: where water is. */
public final class WaterTest {
    private static final Check CHECK = new Check("WaterTest");

    public static void main(String[] args) {
        dryNodes();
        dryPipes();
        customers();
        againstTheOrder();
        CHECK.finish();
    }

    private static void dryNodes() {
        ValveWalk walk = Nets.valvedRow(3, 1, 1);
        nodesAre(walk, "11 all open", 0, 0, 0);
        walk.turn(3, true);
        nodesAre(walk, "11 the last valve", 0, 0, 1);
        walk.turn(0, true);
        nodesAre(walk, "11 the first valve", 0, 1, 1);
        walk.setSource(2, true);
        nodesAre(walk, "11 a source itself is not", 0, 1, 0);
        walk.setSource(0, false);
        nodesAre(walk, "11 no source any more", 1, 1, 0);
        walk.setStuck(3, true);
        nodesAre(walk, "11 stuck shut is shut", 1, 1, 0);
        CHECK.refuses("11 below", Nets::full, x -> Check.bit(x.isNodeDry(-1)), Check.INDEX);
        CHECK.refuses("11 above", Nets::full, x -> Check.bit(x.isNodeDry(12)), Check.INDEX);
    }

    private static void nodesAre(ValveWalk walk, String what, long first, long second, long third) {
        CHECK.answers(what, walk, x -> Check.bit(x.isNodeDry(0)), first);
        CHECK.answers(what, walk, x -> Check.bit(x.isNodeDry(1)), second);
        CHECK.answers(what, walk, x -> Check.bit(x.isNodeDry(2)), third);
    }

    private static void dryPipes() {
        ValveWalk walk = Nets.valvedRow(3, 1, 1);
        pipesAre(walk, "12 all open", 0, 0);
        walk.turn(1, true);
        pipesAre(walk, "12 from one end only", 0, 1);
        walk.turn(0, true);
        pipesAre(walk, "12 shut at both ends", 1, 1);
        walk.setSource(2, true);
        pipesAre(walk, "12 from the end 1", 1, 0);
        walk.turn(1, false);
        pipesAre(walk, "12 back over a pipe", 0, 0);
        walk.setStuck(1, true);
        pipesAre(walk, "12 stuck open is open", 0, 0);
        CHECK.refuses("12 below", Nets::full, x -> Check.bit(x.isPipeDry(-1)), Check.INDEX);
        CHECK.refuses("12 above", Nets::full, x -> Check.bit(x.isPipeDry(16)), Check.INDEX);
        CHECK.refuses("12 none", Nets::empty, x -> Check.bit(x.isPipeDry(0)), Check.INDEX);
    }

    private static void pipesAre(ValveWalk walk, String what, long first, long second) {
        CHECK.answers(what, walk, x -> Check.bit(x.isPipeDry(0)), first);
        CHECK.answers(what, walk, x -> Check.bit(x.isPipeDry(1)), second);
    }

    private static void customers() {
        CHECK.answers("13 full", Nets.full(), x -> x.supplied(), 11 * 99 + 4);
        CHECK.answers("13 nobody", Nets.row(12, 1, 0), x -> x.supplied(), 0);
        ValveWalk walk = Nets.mixed();
        CHECK.answers("13 all dry", walk, x -> x.supplied(), 0);
        walk.turn(0, false);
        CHECK.answers("13 one pipe", walk, x -> x.supplied(), 5);
        walk.setStuck(2, false);
        walk.turn(2, false);
        CHECK.answers("13 both pipes", walk, x -> x.supplied(), 10);
    }

    /** Water goes a long way against the numbers of nodes and pipes. */
    private static void againstTheOrder() {
        ValveWalk walk = Nets.row(12, 1, 1);
        walk.setSource(0, false);
        walk.setSource(11, true);
        CHECK.answers("11 far back", walk, x -> Check.bit(x.isNodeDry(0)), 0);
        CHECK.answers("12 far back", walk, x -> Check.bit(x.isPipeDry(0)), 0);
        CHECK.answers("13 far back", walk, x -> x.supplied(), 11);
    }
}
