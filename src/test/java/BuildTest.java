/** Promises 1 to 10: the network. */
public final class BuildTest {
    private static final Check CHECK = new Check("BuildTest");

    public static void main(String[] args) {
        newObject();
        nodes();
        pipes();
        pipesThatAreWrong();
        valves();
        valvesThatAreWrong();
        sources();
        stuck();
        turned();
        counts();
        CHECK.finish();
    }

    private static void newObject() {
        CHECK.answers("1 nodes", Nets.empty(), x -> x.nodes(), 0);
        CHECK.answers("1 pipes", Nets.empty(), x -> x.pipes(), 0);
        CHECK.answers("1 valves", Nets.empty(), x -> x.valves(), 0);
        CHECK.answers("1 supplied", Nets.empty(), x -> x.supplied(), 0);
        CHECK.answers("1 segments", Nets.empty(), x -> x.segments(), 0);
        CHECK.refuses("1 node", Nets::empty, x -> Check.bit(x.isNodeDry(0)), Check.INDEX);
        CHECK.refuses("1 place", Nets::empty, x -> x.flushAt(0), Check.INDEX);
        ValveWalk other = Nets.full();
        CHECK.answers("1 apart from others", Nets.empty(), x -> x.nodes(), 0);
        CHECK.answers("1 others stay", other, x -> x.nodes(), 12);
    }

    private static void nodes() {
        ValveWalk walk = new ValveWalk();
        for (int node = 0; node < 12; node++) {
            boolean isSource = node % 3 == 0;
            CHECK.answers("2 addNode", walk, x -> x.addNode(isSource), node);
        }
        for (int node = 0; node < 12; node++) {
            int number = node;
            CHECK.answers("2 source", walk, x -> Check.bit(x.isNodeDry(number)), node % 3 == 0 ? 0 : 1);
        }
        CHECK.refuses("2 13th", Nets::full, x -> x.addNode(true), Check.STATE);
        CHECK.refuses("2 13th", Nets::full, x -> x.addNode(false), Check.STATE);
    }

    private static void pipes() {
        ValveWalk walk = new ValveWalk();
        walk.addNode(true);
        walk.addNode(false);
        walk.addNode(false);
        CHECK.answers("3 least", walk, x -> x.addPipe(0, 1, 1, 0), 0);
        CHECK.answers("3 most", walk, x -> x.addPipe(2, 1, 99, 99), 1);
        CHECK.answers("3 length 1", walk, x -> x.distance(1), 1);
        CHECK.answers("3 length 99", walk, x -> x.distance(2), 100);
        CHECK.answers("3 customers", walk, x -> x.supplied(), 99);
        CHECK.answers("3 end 0 is from", walk, x -> x.addValve(1, 0), 0);
        CHECK.answers("3 end 0 is from", walk, x -> x.walk(2, 1), 0);
        for (int pipe = 2; pipe < 16; pipe++) {
            CHECK.answers("3 a pipe beside", walk, x -> x.addPipe(1, 0, 2, 1), pipe);
        }
        CHECK.answers("3 17th", walk, x -> x.pipes(), 16);
        CHECK.answers("3 customers", walk, x -> x.supplied(), 113);
    }

    private static void pipesThatAreWrong() {
        Check.Maker row = () -> Nets.row(3, 4, 5);
        CHECK.refuses("3 no nodes", Nets::empty, x -> x.addPipe(0, 0, 1, 1), Check.INDEX);
        CHECK.refuses("3 from below", row, x -> x.addPipe(-1, 0, 1, 1), Check.INDEX);
        CHECK.refuses("3 from above", row, x -> x.addPipe(3, 0, 1, 1), Check.INDEX);
        CHECK.refuses("3 to below", row, x -> x.addPipe(0, -1, 1, 1), Check.INDEX);
        CHECK.refuses("3 to above", row, x -> x.addPipe(0, 3, 1, 1), Check.INDEX);
        CHECK.refuses("3 least int", row, x -> x.addPipe(0, Integer.MIN_VALUE, 1, 1), Check.INDEX);
        CHECK.refuses("3 most int", row, x -> x.addPipe(Integer.MAX_VALUE, 0, 1, 1), Check.INDEX);
        CHECK.refuses("3 same", row, x -> x.addPipe(2, 2, 1, 1), Check.ARGUMENT);
        CHECK.refuses("3 length 0", row, x -> x.addPipe(0, 1, 0, 1), Check.ARGUMENT);
        CHECK.refuses("3 length 100", row, x -> x.addPipe(0, 1, 100, 1), Check.ARGUMENT);
        CHECK.refuses("3 length below", row, x -> x.addPipe(0, 1, -1, 1), Check.ARGUMENT);
        CHECK.refuses("3 customers -1", row, x -> x.addPipe(0, 1, 1, -1), Check.ARGUMENT);
        CHECK.refuses("3 customers 100", row, x -> x.addPipe(0, 1, 1, 100), Check.ARGUMENT);
        CHECK.refuses("3 17th", Nets::full, x -> x.addPipe(0, 1, 1, 1), Check.STATE);
        CHECK.refuses("3 17th, no node", Nets::full, x -> x.addPipe(0, 12, 0, 1), Check.INDEX);
        CHECK.refuses("3 17th, same", Nets::full, x -> x.addPipe(5, 5, 1, 1), Check.ARGUMENT);
        CHECK.refuses("3 17th, length", Nets::full, x -> x.addPipe(0, 1, 100, 1), Check.ARGUMENT);
        CHECK.refuses("3 17th, customers", Nets::full, x -> x.addPipe(0, 1, 1, 100), Check.ARGUMENT);
        CHECK.refuses("3 same, no node", row, x -> x.addPipe(3, 3, 0, -1), Check.INDEX);
    }

    private static void valves() {
        ValveWalk walk = Nets.row(3, 4, 5);
        CHECK.answers("4 end 1", walk, x -> x.addValve(1, 1), 0);
        CHECK.answers("4 end 0", walk, x -> x.addValve(1, 0), 1);
        CHECK.answers("4 another pipe", walk, x -> x.addValve(0, 1), 2);
        CHECK.answers("4 open at first", walk, x -> x.supplied(), 10);
        CHECK.answers("4 not stuck at first", walk, x -> Check.bit(x.setStuck(0, false)), 0);
        CHECK.answers("4 open at first", walk, x -> Check.bit(x.turn(0, true)), 0);
        CHECK.answers("4 at the end 1", walk, x -> Check.bit(x.isPipeDry(1)), 0);
        CHECK.answers("4 at the end 1", walk, x -> Check.bit(x.isNodeDry(2)), 1);
        CHECK.answers("4 at the end 0", walk, x -> Check.bit(x.turn(1, true)), 0);
        CHECK.answers("4 at the end 0", walk, x -> Check.bit(x.isPipeDry(1)), 1);
        CHECK.answers("4 at the end 0", walk, x -> Check.bit(x.isNodeDry(1)), 0);
    }

    private static void valvesThatAreWrong() {
        Check.Maker row = () -> Nets.valvedRow(3, 4, 5);
        CHECK.refuses("4 no pipes", Nets::empty, x -> x.addValve(0, 0), Check.INDEX);
        CHECK.refuses("4 pipe below", row, x -> x.addValve(-1, 0), Check.INDEX);
        CHECK.refuses("4 pipe above", row, x -> x.addValve(2, 2), Check.INDEX);
        CHECK.refuses("4 end below", row, x -> x.addValve(0, -1), Check.ARGUMENT);
        CHECK.refuses("4 end above", row, x -> x.addValve(0, 2), Check.ARGUMENT);
        CHECK.refuses("4 there is one", row, x -> x.addValve(0, 0), Check.STATE);
        CHECK.refuses("4 there is one", row, x -> x.addValve(1, 1), Check.STATE);
        CHECK.refuses("4 13th", Nets::full, x -> x.addValve(15, 1), Check.STATE);
        CHECK.refuses("4 13th, no pipe", Nets::full, x -> x.addValve(16, 5), Check.INDEX);
        CHECK.refuses("4 13th, no end", Nets::full, x -> x.addValve(0, 2), Check.ARGUMENT);
        CHECK.answers("4 12 of them", Nets.full(), x -> x.valves(), 12);
    }

    private static void sources() {
        ValveWalk walk = Nets.row(2, 1, 9);
        CHECK.answers("5 was one", walk, x -> Check.bit(x.setSource(0, true)), 1);
        CHECK.answers("5 was one", walk, x -> Check.bit(x.setSource(0, false)), 1);
        CHECK.answers("5 none any more", walk, x -> x.supplied(), 0);
        CHECK.answers("5 was none", walk, x -> Check.bit(x.setSource(0, false)), 0);
        CHECK.answers("5 was none", walk, x -> Check.bit(x.setSource(1, true)), 0);
        CHECK.answers("5 one now", walk, x -> x.supplied(), 9);
        CHECK.answers("5 others stay", walk, x -> Check.bit(x.setSource(0, true)), 0);
        CHECK.answers("5 others stay", walk, x -> Check.bit(x.setSource(1, true)), 1);
        CHECK.refuses("5 below", Nets::full, x -> Check.bit(x.setSource(-1, true)), Check.INDEX);
        CHECK.refuses("5 above", Nets::full, x -> Check.bit(x.setSource(12, true)), Check.INDEX);
        CHECK.refuses("5 none", Nets::empty, x -> Check.bit(x.setSource(0, true)), Check.INDEX);
    }

    private static void stuck() {
        ValveWalk walk = Nets.valvedRow(3, 1, 9);
        CHECK.answers("6 was not", walk, x -> Check.bit(x.setStuck(3, true)), 0);
        CHECK.answers("6 was", walk, x -> Check.bit(x.setStuck(3, true)), 1);
        CHECK.answers("6 others", walk, x -> Check.bit(x.setStuck(2, false)), 0);
        CHECK.answers("6 was", walk, x -> Check.bit(x.setStuck(3, false)), 1);
        CHECK.answers("6 was not", walk, x -> Check.bit(x.setStuck(3, false)), 0);
        CHECK.answers("6 turns again", walk, x -> Check.bit(x.turn(3, true)), 0);
        CHECK.answers("6 stuck shut", walk, x -> Check.bit(x.setStuck(3, true)), 0);
        CHECK.answers("6 stays shut", walk, x -> Check.bit(x.isNodeDry(2)), 1);
        CHECK.refuses("6 below", Nets::mixed, x -> Check.bit(x.setStuck(-1, true)), Check.INDEX);
        CHECK.refuses("6 above", Nets::mixed, x -> Check.bit(x.setStuck(4, true)), Check.INDEX);
        CHECK.refuses("6 13th", Nets::full, x -> Check.bit(x.setStuck(12, true)), Check.INDEX);
    }

    private static void turned() {
        ValveWalk walk = Nets.valvedRow(2, 1, 9);
        CHECK.answers("7 was open", walk, x -> Check.bit(x.turn(0, false)), 0);
        CHECK.answers("7 was open", walk, x -> Check.bit(x.turn(0, true)), 0);
        CHECK.answers("7 shut", walk, x -> x.supplied(), 0);
        CHECK.answers("7 was shut", walk, x -> Check.bit(x.turn(0, true)), 1);
        CHECK.answers("7 others", walk, x -> Check.bit(x.turn(1, false)), 0);
        CHECK.answers("7 was shut", walk, x -> Check.bit(x.turn(0, false)), 1);
        CHECK.answers("7 open", walk, x -> x.supplied(), 9);
        CHECK.refuses("7 stuck", Nets::mixed, x -> Check.bit(x.turn(1, true)), Check.STATE);
        CHECK.refuses("7 stuck as it is", Nets::mixed, x -> Check.bit(x.turn(1, false)), Check.STATE);
        CHECK.refuses("7 stuck shut", Nets::mixed, x -> Check.bit(x.turn(2, false)), Check.STATE);
        CHECK.refuses("7 stuck shut", Nets::mixed, x -> Check.bit(x.turn(2, true)), Check.STATE);
        CHECK.refuses("7 below", Nets::mixed, x -> Check.bit(x.turn(-1, true)), Check.INDEX);
        CHECK.refuses("7 above", Nets::mixed, x -> Check.bit(x.turn(4, true)), Check.INDEX);
    }

    private static void counts() {
        CHECK.answers("8 full", Nets.full(), x -> x.nodes(), 12);
        CHECK.answers("9 full", Nets.full(), x -> x.pipes(), 16);
        CHECK.answers("10 full", Nets.full(), x -> x.valves(), 12);
        CHECK.answers("8 row", Nets.row(5, 1, 1), x -> x.nodes(), 5);
        CHECK.answers("9 row", Nets.row(5, 1, 1), x -> x.pipes(), 4);
        CHECK.answers("10 row", Nets.row(5, 1, 1), x -> x.valves(), 0);
        CHECK.answers("10 with valves", Nets.valvedRow(4, 1, 1), x -> x.valves(), 6);
    }
}
