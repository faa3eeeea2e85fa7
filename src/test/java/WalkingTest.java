/** Promise 24: walks. */
public final class WalkingTest {
    private static final Check CHECK = new Check("WalkingTest");

    public static void main(String[] args) {
        alongRows();
        overStars();
        notOverWater();
        noWalks();
        wrongInputs();
        CHECK.finish();
    }

    private static void walkIs(String what, ValveWalk walk, int node, int set, long due) {
        CHECK.answers("24 " + what, walk, x -> x.walk(node, set), due);
    }

    private static void alongRows() {
        ValveWalk walk = Nets.valvedRow(7, 10, 0);
        walkIs("no valves", walk, 3, 0, 0);
        walkIs("no valves at all", Nets.row(1, 1, 1), 0, 0, 0);
        walkIs("at the valve", walk, 3, 1 << 5, 0);
        walkIs("two at one node", walk, 3, 1 << 5 | 1 << 6, 0);
        walkIs("to the end 0", walk, 3, 1, 30);
        walkIs("to the end 1", walk, 3, 1 << 11, 30);
        walkIs("to both ends", walk, 3, 1 << 11 | 1, 90);
        walkIs("first to the nearer", walk, 2, 1 << 11 | 1, 80);
        walkIs("six valves", walk, 2, 0b101010101010, 60);
        walkIs("six other valves", walk, 4, 0b010101010101, 60);
        walkIs("from the last node", Nets.full(), 11, 1, 11);
        walkIs("the longest pipes", Nets.valvedRow(7, 99, 0), 0, 1 << 11, 594);
    }

    /** The node 0 in the middle; the pipe p leads to the node p + 1 and is p + 1 long. */
    private static ValveWalk star() {
        ValveWalk walk = new ValveWalk();
        walk.addNode(false);
        for (int pipe = 0; pipe < 6; pipe++) {
            walk.addNode(false);
            walk.addPipe(0, pipe + 1, pipe + 1, 0);
            walk.addValve(pipe, 1);
        }
        return walk;
    }

    private static void overStars() {
        walkIs("from the middle", star(), 0, 63, 36);
        walkIs("from the longest", star(), 6, 63, 31);
        walkIs("from the shortest", star(), 1, 63, 35);
        walkIs("over some", star(), 0, 0b001110, 14);
        ValveWalk ring = star();
        ring.addPipe(6, 5, 1, 0);
        ring.addPipe(4, 5, 2, 0);
        walkIs("over pipes between", ring, 0, 0b111000, 7);
        ring.addPipe(0, 6, 1, 0);
        walkIs("by the shorter of two pipes", ring, 0, 0b111000, 4);
    }

    private static void notOverWater() {
        walkIs("past shut and stuck valves", Nets.mixed(), 2, 1, 14);
        ValveWalk dry = Nets.mixed();
        dry.setSource(0, false);
        walkIs("without any water", dry, 0, 0b1001, 14);
    }

    private static void noWalks() {
        ValveWalk walk = Nets.valvedRow(3, 9, 1);
        walk.addNode(true);
        walkIs("from a node alone", walk, 3, 1, -1);
        walkIs("from a node alone, no valves", walk, 3, 0, 0);
        walk.addNode(true);
        walk.addPipe(3, 4, 1, 1);
        walk.addValve(2, 0);
        walkIs("one of two", walk, 0, 0b10001, -1);
        walkIs("one of two, from there", walk, 3, 0b10001, -1);
        walkIs("the one", walk, 4, 0b10000, 1);
    }

    private static void wrongInputs() {
        CHECK.refuses("24 below", Nets::full, x -> x.walk(-1, 0), Check.INDEX);
        CHECK.refuses("24 above", Nets::full, x -> x.walk(12, 0), Check.INDEX);
        CHECK.refuses("24 no node, no set", Nets::full, x -> x.walk(12, -1), Check.INDEX);
        CHECK.refuses("24 no nodes", Nets::empty, x -> x.walk(0, 0), Check.INDEX);
        CHECK.refuses("24 set -1", Nets::full, x -> x.walk(0, -1), Check.ARGUMENT);
        CHECK.refuses("24 least set", Nets::full, x -> x.walk(0, Integer.MIN_VALUE), Check.ARGUMENT);
        CHECK.refuses("24 most set", Nets::full, x -> x.walk(0, Integer.MAX_VALUE), Check.ARGUMENT);
        CHECK.refuses("24 13th valve", Nets::full, x -> x.walk(0, 4096), Check.ARGUMENT);
        CHECK.refuses("24 5th valve", Nets::mixed, x -> x.walk(0, 16), Check.ARGUMENT);
        CHECK.refuses("24 5th and 1st", Nets::mixed, x -> x.walk(0, 17), Check.ARGUMENT);
        CHECK.refuses("24 no valves", () -> Nets.row(2, 1, 1), x -> x.walk(0, 1), Check.ARGUMENT);
        CHECK.refuses("24 seven valves", Nets::full, x -> x.walk(0, 127), Check.ARGUMENT);
        CHECK.refuses("24 all valves", Nets::full, x -> x.walk(0, 4095), Check.ARGUMENT);
        Check.Maker row = () -> Nets.valvedRow(6, 1, 1);
        CHECK.refuses("24 seven at fewer nodes", row, x -> x.walk(0, 0b1111111), Check.ARGUMENT);
        CHECK.answers("24 six at the end", Nets.full(), x -> x.walk(0, 0b111111000000), 11);
    }
}
