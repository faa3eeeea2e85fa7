/** Promises 22 and 23: distances and the order of flushing. */
public final class FlushingTest {
    private static final Check CHECK = new Check("FlushingTest");

    public static void main(String[] args) {
        distancesInRows();
        distancesByTheBestWay();
        distancesBehindValves();
        orderOfTheFullNet();
        endsOfPipes();
        endsBehindValves();
        placesThatThereAreNot();
        CHECK.finish();
    }

    private static void distanceIs(String what, ValveWalk walk, int node, long due) {
        CHECK.answers("22 " + what, walk, x -> x.distance(node), due);
    }

    private static void flushed(String what, ValveWalk walk, int... due) {
        for (int place = 0; place < due.length; place++) {
            int at = place;
            CHECK.answers("23 " + what + ", " + place, walk, x -> x.flushAt(at), due[place]);
        }
        String behind = Check.said(walk, x -> x.flushAt(due.length));
        CHECK.same("23 " + what + ", no more", behind, "throws.IndexOutOfBoundsException");
    }

    private static void distancesInRows() {
        distanceIs("the source", Nets.row(12, 99, 0), 0, 0);
        distanceIs("the longest way", Nets.row(12, 99, 0), 11, 1089);
        distanceIs("lengths of 1", Nets.row(12, 1, 0), 11, 11);
        ValveWalk back = Nets.row(12, 2, 0);
        back.setSource(0, false);
        distanceIs("no source", back, 11, -1);
        back.setSource(11, true);
        distanceIs("against the numbers", back, 0, 22);
        back.setSource(3, true);
        distanceIs("the nearer source", back, 0, 6);
        distanceIs("a source itself", back, 3, 0);
        CHECK.refuses("22 below", Nets::full, x -> x.distance(-1), Check.INDEX);
        CHECK.refuses("22 above", Nets::full, x -> x.distance(12), Check.INDEX);
        CHECK.refuses("22 none", Nets::empty, x -> x.distance(0), Check.INDEX);
    }

    private static void distancesByTheBestWay() {
        ValveWalk walk = Nets.row(4, 10, 0);
        walk.addPipe(3, 0, 31, 0);
        distanceIs("more pipes, but shorter", walk, 3, 30);
        walk.addPipe(3, 0, 29, 0);
        distanceIs("fewer pipes", walk, 3, 29);
        walk.addPipe(3, 1, 1, 0);
        distanceIs("from both sides", walk, 3, 11);
        distanceIs("before it", walk, 2, 20);
    }

    private static void distancesBehindValves() {
        ValveWalk walk = Nets.valvedRow(3, 4, 1);
        walk.addPipe(0, 2, 50, 1);
        distanceIs("all open", walk, 2, 8);
        walk.turn(1, true);
        distanceIs("shut at the end 1", walk, 1, 54);
        walk.turn(1, false);
        walk.turn(0, true);
        distanceIs("shut at the end 0", walk, 1, 54);
        walk.setStuck(3, true);
        distanceIs("stuck open", walk, 1, 54);
        walk.turn(2, true);
        distanceIs("dry", walk, 1, -1);
        distanceIs("not dry", walk, 2, 50);
    }

    private static void orderOfTheFullNet() {
        flushed("full", Nets.full(), 0, 23, 24, 2, 26, 4, 28, 6, 30, 8, 10, 12, 14, 16, 18, 20);
        flushed("a row", Nets.row(4, 5, 0), 0, 2, 4);
        flushed("empty", Nets.empty());
    }

    private static void endsOfPipes() {
        ValveWalk walk = Nets.row(2, 5, 0);
        walk.addPipe(1, 0, 5, 0);
        flushed("from the source, two alike", walk, 0, 3);
        walk.setSource(1, true);
        flushed("of two ends alike the end 0", walk, 0, 2);
        walk.setSource(0, false);
        flushed("from the other source", walk, 1, 2);
        walk.setSource(1, false);
        flushed("all dry", walk);
    }

    private static void endsBehindValves() {
        ValveWalk walk = Nets.row(3, 5, 0);
        walk.addPipe(0, 2, 40, 0);
        walk.addValve(2, 0);
        walk.addValve(2, 1);
        flushed("the nearer end", walk, 0, 4, 2);
        walk.turn(0, true);
        flushed("the farther end, as the nearer is shut", walk, 0, 2, 5);
        walk.turn(1, true);
        flushed("both shut", walk, 0, 2);
        walk.turn(0, false);
        flushed("the far end shut", walk, 0, 4, 2);
    }

    private static void placesThatThereAreNot() {
        CHECK.refuses("23 below", Nets::full, x -> x.flushAt(-1), Check.INDEX);
        CHECK.refuses("23 above", Nets::full, x -> x.flushAt(16), Check.INDEX);
        CHECK.refuses("23 least", Nets::full, x -> x.flushAt(Integer.MIN_VALUE), Check.INDEX);
        CHECK.refuses("23 most", Nets::full, x -> x.flushAt(Integer.MAX_VALUE), Check.INDEX);
        CHECK.refuses("23 dry", Nets::mixed, x -> x.flushAt(0), Check.INDEX);
        CHECK.refuses("23 dry, below", Nets::mixed, x -> x.flushAt(-1), Check.INDEX);
    }
}
