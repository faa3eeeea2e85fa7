/** Promises 18 to 21: breaks. */
public final class BreaksTest {
    private static final Check CHECK = new Check("BreaksTest");

    public static void main(String[] args) {
        openRow();
        stuckOpen();
        shutValves();
        allShutOrStuck();
        withoutValves();
        valveInsideTheRegion();
        severalSources();
        twoAgainstOne();
        wayThatIsTakenBack();
        waysOverOneValveAgainAndAgain();
        twelveValves();
        twelveValvesInARow();
        customersFarOff();
        wrongInputs();
        CHECK.finish();
    }

    private static void ringIs(String what, ValveWalk walk, int pipe, long ring, long cutOff) {
        CHECK.answers("18 " + what, walk, x -> x.ring(pipe), ring);
        CHECK.answers("19 " + what, walk, x -> x.cutOff(pipe), cutOff);
    }

    private static void fewestAre(String what, ValveWalk walk, int pipe, long count, long set) {
        CHECK.answers("20 " + what, walk, x -> x.fewest(pipe), count);
        CHECK.answers("21 " + what, walk, x -> x.fewestByTrying(pipe), set);
    }

    private static void ringIsRefused(String what, Check.Maker maker, int pipe) {
        CHECK.refuses("18 " + what, maker, x -> x.ring(pipe), Check.STATE);
        CHECK.refuses("19 " + what, maker, x -> x.cutOff(pipe), Check.STATE);
    }

    private static void openRow() {
        ValveWalk walk = Nets.valvedRow(3, 7, 5);
        ringIs("the first pipe", walk, 0, 3, 10);
        ringIs("the last pipe", walk, 1, 12, 5);
        fewestAre("the first pipe", walk, 0, 1, 1);
        fewestAre("the last pipe, the least of three", walk, 1, 1, 1);
        CHECK.answers("18 shuts nothing", walk, x -> x.supplied(), 10);
    }

    private static void stuckOpen() {
        ValveWalk walk = Nets.valvedRow(3, 7, 5);
        walk.setStuck(1, true);
        ringIs("stuck at the far end", walk, 0, 5, 10);
        fewestAre("stuck at the far end", walk, 0, 1, 1);
        walk.setStuck(1, false);
        walk.setStuck(0, true);
        ringIsRefused("stuck at the source", () -> {
            ValveWalk made = Nets.valvedRow(3, 7, 5);
            made.setStuck(0, true);
            return made;
        }, 0);
        fewestAre("stuck at the source", walk, 0, -1, -1);
        fewestAre("behind the stuck one", walk, 1, 1, 2);
        ringIs("behind the stuck one", walk, 1, 12, 5);
        walk.setSource(0, false);
        ringIs("no source any more", walk, 0, 2, 0);
        fewestAre("no source any more", walk, 0, 0, 0);
    }

    private static void shutValves() {
        ValveWalk walk = Nets.valvedRow(3, 7, 5);
        walk.turn(2, true);
        ringIs("the next pipe is dry now", walk, 0, 3, 5);
        ringIs("dry now", walk, 1, 8, 0);
        fewestAre("dry now", walk, 1, 0, 0);
        walk.setStuck(2, true);
        ringIs("stuck shut bounds the region", walk, 1, 8, 0);
        walk.setSource(2, true);
        ringIs("from the other side", walk, 1, 8, 5);
        fewestAre("from the other side", walk, 1, 1, 8);
    }

    private static void allShutOrStuck() {
        ringIs("nothing to shut", Nets.mixed(), 0, 0, 0);
        ringIs("one to shut", Nets.mixed(), 1, 8, 0);
        fewestAre("dry", Nets.mixed(), 0, 0, 0);
        fewestAre("dry", Nets.mixed(), 1, 0, 0);
    }

    private static void withoutValves() {
        Check.Maker row = () -> Nets.row(12, 1, 99);
        ringIsRefused("no valves", row, 10);
        fewestAre("no valves", row.make(), 10, -1, -1);
        ValveWalk dry = Nets.row(12, 1, 99);
        dry.setSource(0, false);
        ringIs("no source", dry, 10, 0, 0);
        fewestAre("no source", dry, 10, 0, 0);
    }

    /** Pipes 1 and 2 lie side by side; a valve of 2 has the region on both of its sides. */
    private static void valveInsideTheRegion() {
        ValveWalk walk = Nets.row(3, 1, 10);
        walk.addPipe(1, 2, 1, 20);
        walk.addValve(0, 1);
        walk.addValve(2, 0);
        ringIs("a valve inside", walk, 1, 1, 30);
        ringIs("the pipe of the valve inside", walk, 2, 1, 30);
        fewestAre("a valve inside", walk, 1, 1, 1);
        fewestAre("the pipe at the source", walk, 0, -1, -1);
        walk.setStuck(1, true);
        ringIs("stuck inside", walk, 2, 1, 30);
    }

    private static void severalSources() {
        ValveWalk walk = Nets.valvedRow(4, 1, 8);
        walk.setSource(3, true);
        ringIs("sources at both ends", walk, 1, 12, 8);
        fewestAre("sources at both ends", walk, 1, 2, 9);
        fewestAre("beside one source", walk, 0, 2, 3);
        walk.setStuck(3, true);
        ringIs("the next region", walk, 1, 20, 8);
        fewestAre("the next region", walk, 1, 2, 17);
    }

    /** The valves 0 and 1 are on pipes side by side, the valve 2 is behind both. */
    private static void twoAgainstOne() {
        ValveWalk walk = Nets.row(3, 1, 1);
        walk.addPipe(0, 1, 1, 1);
        walk.addValve(0, 0);
        walk.addValve(2, 0);
        walk.addValve(1, 0);
        fewestAre("one, though its number is more", walk, 1, 1, 4);
        fewestAre("both of two", walk, 0, 2, 3);
        walk.setStuck(2, true);
        fewestAre("both, as the one is stuck", walk, 1, 2, 3);
        walk.turn(0, true);
        fewestAre("what is shut does not count", walk, 1, 1, 2);
        walk.setStuck(1, true);
        fewestAre("the last one is stuck too", walk, 1, -1, -1);
    }

    /** The first way found may go over the valve 1; then a second one has to send it back. */
    private static void wayThatIsTakenBack() {
        ValveWalk walk = Nets.row(5, 1, 1);
        walk.addPipe(0, 2, 1, 1);
        walk.addPipe(1, 3, 1, 1);
        walk.addValve(0, 0);
        walk.addValve(1, 0);
        walk.addValve(2, 0);
        walk.addValve(4, 0);
        walk.addValve(5, 0);
        fewestAre("two ways", walk, 3, 2, 9);
        ringIs("two ways", walk, 3, 20, 3);
    }

    /** What some ways take back of others goes over the same valve to and fro, more than once. */
    private static void waysOverOneValveAgainAndAgain() {
        fewestAre("three ways", linked("21 24 41 02 23 30 43 21 30 30"), 10, 3, 70);
        fewestAre("three other ways", linked("24 21 20 41 32 03 43 03 30 24"), 10, 3, 84);
        fewestAre("five ways", linked("21 24 40 41 02 12 23 30 34 40 03"), 11, 5, 782);
    }

    /**
     * The node 0 is the source, the last pipe leads on from the node 4 to a node 5. Each pair of
     * digits is a pipe from one node to another, which has the valve of its number at its end 0.
     */
    private static ValveWalk linked(String pairs) {
        ValveWalk walk = new ValveWalk();
        for (int node = 0; node < 6; node++) {
            walk.addNode(node == 0);
        }
        for (String pair : pairs.split(" ")) {
            int pipe = walk.addPipe(pair.charAt(0) - '0', pair.charAt(1) - '0', 1, 1);
            walk.addValve(pipe, 0);
        }
        walk.addPipe(4, 5, 1, 1);
        return walk;
    }

    private static void twelveValves() {
        ValveWalk walk = new ValveWalk();
        for (int node = 0; node < 12; node++) {
            walk.addNode(node < 10);
        }
        for (int pipe = 0; pipe < 12; pipe++) {
            walk.addPipe(pipe % 10, 11, 1, 99);
            walk.addValve(pipe, 1);
        }
        walk.addPipe(10, 11, 1, 42);
        fewestAre("all twelve", walk, 12, 12, 4095);
        ringIs("all twelve", walk, 12, 4095, 42);
        walk.turn(5, true);
        fewestAre("one is shut", walk, 12, 11, 4095 - 32);
        walk.setStuck(11, true);
        fewestAre("one is stuck", walk, 12, -1, -1);
    }

    /** Water comes over all valves one by one, from the last one to the first. */
    private static void twelveValvesInARow() {
        ValveWalk walk = Nets.row(8, 1, 1);
        walk.setSource(0, false);
        walk.setSource(7, true);
        for (int valve = 0; valve < 12; valve++) {
            walk.addValve(1 + valve / 2, valve % 2);
        }
        fewestAre("behind twelve", walk, 0, 1, 1);
        ringIs("behind twelve", walk, 0, 1, 1);
        for (int valve = 0; valve < 11; valve++) {
            walk.setStuck(valve, true);
        }
        fewestAre("behind eleven that are stuck", walk, 0, 1, 2048);
        ringIs("behind eleven that are stuck", walk, 0, 2048, 7);
    }

    /** The ring of a pipe in the middle cuts off what is behind it, but not what is before. */
    private static void customersFarOff() {
        ValveWalk walk = Nets.valvedRow(7, 1, 3);
        ringIs("in the middle", walk, 2, 48, 12);
        walk.setSource(6, true);
        ringIs("fed from behind", walk, 2, 48, 3);
        ringIs("in the full net", Nets.full(), 4, 1 << 4 | 1 << 5, 99);
    }

    private static void wrongInputs() {
        for (int pipe : new int[] {-1, 16, Integer.MIN_VALUE, Integer.MAX_VALUE}) {
            CHECK.refuses("18 " + pipe, Nets::full, x -> x.ring(pipe), Check.INDEX);
            CHECK.refuses("19 " + pipe, Nets::full, x -> x.cutOff(pipe), Check.INDEX);
            CHECK.refuses("20 " + pipe, Nets::full, x -> x.fewest(pipe), Check.INDEX);
            CHECK.refuses("21 " + pipe, Nets::full, x -> x.fewestByTrying(pipe), Check.INDEX);
        }
        CHECK.refuses("18 none", Nets::empty, x -> x.ring(0), Check.INDEX);
        CHECK.refuses("19 none", Nets::empty, x -> x.cutOff(0), Check.INDEX);
        CHECK.refuses("20 none", Nets::empty, x -> x.fewest(0), Check.INDEX);
        CHECK.refuses("21 none", Nets::empty, x -> x.fewestByTrying(0), Check.INDEX);
    }
}
