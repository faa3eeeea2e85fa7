/**
 * Each range of an argument: just below and just above it, far off, numbers that would come into
 * it by a wrap-around, and the least and the greatest that are allowed.
 */
public final class RangesTest {
    private static final Check CHECK = new Check("RangesTest");

    /** Out of each range of the document; sums, shifts or narrower numbers turn some into others. */
    private static final int[] ALWAYS_WRONG = {
        Integer.MIN_VALUE, Integer.MIN_VALUE + 1, Integer.MIN_VALUE + 2, -1 << 30, -1 << 29, -65536,
        -65535, -256, -255, -64, -32, -31, -2, -1, 128, 256, 257, 65536, 65537, 1 << 28, 1 << 29,
        1 << 30, (1 << 30) + 1, Integer.MAX_VALUE - 1, Integer.MAX_VALUE};

    private static final Row[] BY_NODE = {
        new Row("3 addPipe from", (x, n) -> x.addPipe(n, 0, 1, 1)),
        new Row("3 addPipe to", (x, n) -> x.addPipe(0, n, 1, 1)),
        new Row("5 setSource true", (x, n) -> Check.bit(x.setSource(n, true))),
        new Row("5 setSource false", (x, n) -> Check.bit(x.setSource(n, false))),
        new Row("11 isNodeDry", (x, n) -> Check.bit(x.isNodeDry(n))),
        new Row("15 segmentOfNode", (x, n) -> x.segmentOfNode(n)),
        new Row("22 distance", (x, n) -> x.distance(n)),
        new Row("24 walk", (x, n) -> x.walk(n, 0)),
    };
    private static final Row[] BY_PIPE = {
        new Row("4 addValve 0", (x, n) -> x.addValve(n, 0)),
        new Row("4 addValve 1", (x, n) -> x.addValve(n, 1)),
        new Row("12 isPipeDry", (x, n) -> Check.bit(x.isPipeDry(n))),
        new Row("16 segmentOfPipe", (x, n) -> x.segmentOfPipe(n)),
        new Row("17 segmentByMerging", (x, n) -> x.segmentByMerging(n)),
        new Row("18 ring", (x, n) -> x.ring(n)),
        new Row("19 cutOff", (x, n) -> x.cutOff(n)),
        new Row("20 fewest", (x, n) -> x.fewest(n)),
        new Row("21 fewestByTrying", (x, n) -> x.fewestByTrying(n)),
    };
    private static final Row[] BY_VALVE = {
        new Row("6 setStuck true", (x, n) -> Check.bit(x.setStuck(n, true))),
        new Row("6 setStuck false", (x, n) -> Check.bit(x.setStuck(n, false))),
        new Row("7 turn true", (x, n) -> Check.bit(x.turn(n, true))),
        new Row("7 turn false", (x, n) -> Check.bit(x.turn(n, false))),
    };
    private static final Row[] BY_PLACE = {new Row("23 flushAt", (x, n) -> x.flushAt(n))};

    /** A call with one of its numbers left open. */
    private interface Numbered {
        long on(ValveWalk walk, int number);
    }

    private record Row(String name, Numbered call) {
    }

    public static void main(String[] args) {
        numbersOfNodes();
        numbersOfPipes();
        numbersOfValves();
        places();
        leastAndGreatestNode();
        leastAndGreatestPipe();
        leastAndGreatestValve();
        leastAndGreatestPlace();
        lengths();
        customers();
        ends();
        setsThatAreOutOfRange();
        allSetsOfTwelve();
        CHECK.finish();
    }

    private static void refused(Row[] rows, String state, Check.Maker maker, int count) {
        for (Row row : rows) {
            for (int number : ALWAYS_WRONG) {
                refused(row, state, maker, number);
            }
            // Up to what the document allows at the most, and to where a shift begins anew.
            for (int number = count; number <= 33; number++) {
                refused(row, state, maker, number);
            }
        }
    }

    private static void refused(Row row, String state, Check.Maker maker, int number) {
        String what = row.name() + " " + number + ", " + state;
        CHECK.refuses(what, maker, x -> row.call().on(x, number), Check.INDEX);
    }

    private static void numbersOfNodes() {
        refused(BY_NODE, "no nodes", Nets::empty, 0);
        refused(BY_NODE, "one node", () -> Nets.sized(1, 0, 0), 1);
        refused(BY_NODE, "three nodes", Nets::mixed, 3);
        refused(BY_NODE, "11 nodes", () -> Nets.sized(11, 16, 12), 11);
        refused(BY_NODE, "12 nodes", Nets::crowded, 12);
    }

    private static void numbersOfPipes() {
        refused(BY_PIPE, "nothing", Nets::empty, 0);
        refused(BY_PIPE, "no pipes", () -> Nets.sized(12, 0, 0), 0);
        refused(BY_PIPE, "one pipe", () -> Nets.sized(2, 1, 1), 1);
        refused(BY_PIPE, "15 pipes", () -> Nets.sized(12, 15, 12), 15);
        refused(BY_PIPE, "16 pipes", Nets::crowded, 16);
    }

    private static void numbersOfValves() {
        refused(BY_VALVE, "nothing", Nets::empty, 0);
        refused(BY_VALVE, "no valves", () -> Nets.sized(12, 16, 0), 0);
        refused(BY_VALVE, "one valve", () -> Nets.sized(2, 1, 1), 1);
        refused(BY_VALVE, "11 valves", () -> Nets.sized(12, 16, 11), 11);
        refused(BY_VALVE, "12 valves", Nets::crowded, 12);
    }

    private static void places() {
        refused(BY_PLACE, "nothing", Nets::empty, 0);
        refused(BY_PLACE, "no pipes", () -> Nets.sized(12, 0, 0), 0);
        refused(BY_PLACE, "all dry", Nets::mixed, 0);
        refused(BY_PLACE, "one pipe", () -> Nets.sized(2, 1, 1), 1);
        refused(BY_PLACE, "all but one dry", () -> {
            ValveWalk walk = Nets.valvedRow(7, 1, 1);
            walk.turn(1, true);
            return walk;
        }, 1);
        refused(BY_PLACE, "15 pipes", () -> Nets.sized(12, 15, 12), 15);
        refused(BY_PLACE, "16 pipes", () -> Nets.sized(12, 16, 12), 16);
    }

    /** What a row's call answers for the least and the greatest number, each on its own object. */
    private static void bothAnswer(Row row, Check.Maker maker, int greatest, long least, long most) {
        Check.Call first = x -> row.call().on(x, 0);
        Check.Call last = x -> row.call().on(x, greatest);
        CHECK.answers(row.name() + " 0", maker.make(), first, least);
        CHECK.answers(row.name() + " " + greatest, maker.make(), last, most);
    }

    private static void leastAndGreatestNode() {
        Check.Maker row = () -> Nets.row(12, 5, 1);
        CHECK.answers("3 from 0 to 11", row.make(), x -> x.addPipe(0, 11, 1, 1), 11);
        CHECK.answers("3 from 11 to 0", row.make(), x -> x.addPipe(11, 0, 1, 1), 11);
        bothAnswer(BY_NODE[2], row, 11, 1, 0);
        bothAnswer(BY_NODE[3], row, 11, 1, 0);
        bothAnswer(BY_NODE[4], row, 11, 0, 0);
        bothAnswer(BY_NODE[4], Nets::mixed, 2, 0, 1);
        bothAnswer(BY_NODE[5], () -> Nets.sized(12, 0, 0), 11, 0, 11);
        bothAnswer(BY_NODE[6], row, 11, 0, 55);
        bothAnswer(new Row("24 walk", (x, n) -> x.walk(n, 1)), () -> {
            ValveWalk walk = Nets.row(12, 5, 1);
            walk.addValve(10, 0);
            return walk;
        }, 11, 50, 5);
    }

    private static void leastAndGreatestPipe() {
        Check.Maker pipes = () -> Nets.sized(12, 16, 0);
        bothAnswer(BY_PIPE[0], pipes, 15, 0, 0);
        bothAnswer(BY_PIPE[1], pipes, 15, 0, 0);
        bothAnswer(BY_PIPE[2], pipes, 15, 0, 0);
        bothAnswer(BY_PIPE[3], pipes, 15, 0, 0);
        bothAnswer(BY_PIPE[4], pipes, 15, 0, 0);
        bothAnswer(BY_PIPE[7], pipes, 15, -1, -1);
        bothAnswer(BY_PIPE[8], pipes, 15, -1, -1);
        // The pipes 0 and 15 lie behind the valves 0 and 1 of their own, all else is the source's.
        Check.Maker behind = () -> {
            ValveWalk walk = Nets.sized(12, 16, 0);
            walk.addValve(0, 0);
            walk.addValve(15, 1);
            walk.addValve(0, 1);
            walk.addValve(15, 0);
            return walk;
        };
        bothAnswer(BY_PIPE[3], behind, 15, 1, 2);
        bothAnswer(BY_PIPE[4], behind, 15, 1, 2);
        bothAnswer(BY_PIPE[5], behind, 15, 0b101, 0b1010);
        bothAnswer(BY_PIPE[6], behind, 15, 1, 16);
        bothAnswer(BY_PIPE[7], behind, 15, 2, 2);
        bothAnswer(BY_PIPE[8], behind, 15, 0b101, 0b1010);
    }

    private static void leastAndGreatestValve() {
        for (Row row : BY_VALVE) {
            bothAnswer(row, () -> Nets.sized(12, 16, 12), 11, 0, 0);
        }
        bothAnswer(BY_VALVE[1], () -> {
            ValveWalk walk = Nets.sized(12, 16, 12);
            walk.setStuck(0, true);
            walk.setStuck(11, true);
            return walk;
        }, 11, 1, 1);
        bothAnswer(BY_VALVE[2], () -> {
            ValveWalk walk = Nets.sized(12, 16, 12);
            walk.turn(0, true);
            walk.turn(11, true);
            return walk;
        }, 11, 1, 1);
    }

    private static void leastAndGreatestPlace() {
        bothAnswer(BY_PLACE[0], () -> Nets.sized(2, 1, 0), 0, 0, 0);
        bothAnswer(BY_PLACE[0], () -> Nets.sized(2, 16, 0), 15, 0, 30);
        bothAnswer(BY_PLACE[0], () -> Nets.row(12, 1, 1), 10, 0, 20);
    }

    private static ValveWalk twoNodes() {
        return Nets.sized(2, 0, 0);
    }

    private static void lengths() {
        for (int length : ALWAYS_WRONG) {
            lengthIsRefused(length);
        }
        for (int length : new int[] {0, 100, 101, 127, 129}) {
            lengthIsRefused(length);
        }
        for (int length = 1; length <= 99; length++) {
            int allowed = length;
            ValveWalk walk = twoNodes();
            CHECK.answers("3 length " + length, walk, x -> x.addPipe(0, 1, allowed, 0), 0);
            CHECK.answers("3 is so long, " + length, walk, x -> x.distance(1), length);
        }
    }

    private static void lengthIsRefused(int length) {
        String what = "3 length " + length;
        CHECK.refuses(what, RangesTest::twoNodes, x -> x.addPipe(0, 1, length, 1), Check.ARGUMENT);
    }

    private static void customers() {
        for (int customers : ALWAYS_WRONG) {
            customersAreRefused(customers);
        }
        for (int customers : new int[] {100, 101, 127, 129}) {
            customersAreRefused(customers);
        }
        for (int customers = 0; customers <= 99; customers++) {
            int allowed = customers;
            ValveWalk walk = twoNodes();
            CHECK.answers("3 customers " + customers, walk, x -> x.addPipe(0, 1, 1, allowed), 0);
            CHECK.answers("3 so many, " + customers, walk, x -> x.supplied(), customers);
        }
    }

    private static void customersAreRefused(int customers) {
        String what = "3 customers " + customers;
        Check.Call call = x -> x.addPipe(0, 1, 1, customers);
        CHECK.refuses(what, RangesTest::twoNodes, call, Check.ARGUMENT);
    }

    private static void ends() {
        Check.Maker pipe = () -> Nets.row(2, 5, 5);
        for (int end : ALWAYS_WRONG) {
            CHECK.refuses("4 end " + end, pipe, x -> x.addValve(0, end), Check.ARGUMENT);
        }
        for (int end = 2; end <= 33; end++) {
            int wrong = end;
            CHECK.refuses("4 end " + end, pipe, x -> x.addValve(0, wrong), Check.ARGUMENT);
        }
        for (int end = 0; end <= 1; end++) {
            int allowed = end;
            ValveWalk walk = pipe.make();
            CHECK.answers("4 end " + end, walk, x -> x.addValve(0, allowed), 0);
            CHECK.answers("4 it is there, " + end, walk, x -> x.walk(0, 1), end == 0 ? 0 : 5);
        }
    }

    private static void setsThatAreOutOfRange() {
        for (int valves : new int[] {0, 1, 4, 11, 12}) {
            Check.Maker maker = () -> Nets.sized(12, 16, valves);
            String state = ", " + valves + " valves";
            for (int set = 1 << valves; set > 0; set <<= 1) {
                setIsRefused(maker, set, state);
                setIsRefused(maker, set + 1, state);
            }
            for (int set : new int[] {-1, -2, -4096, -4095, -(1 << 30), Integer.MIN_VALUE,
                Integer.MIN_VALUE + 1, Integer.MAX_VALUE, Integer.MAX_VALUE - 1}) {
                setIsRefused(maker, set, state);
            }
            CHECK.answers("24 set 0" + state, maker.make(), x -> x.walk(11, 0), 0);
        }
        CHECK.answers("24 the only valve", Nets.sized(2, 1, 1), x -> x.walk(1, 1), 1);
        CHECK.answers("24 valve 11", Nets.sized(12, 16, 12), x -> x.walk(6, 1 << 11), 0);
        CHECK.answers("24 valve 11 from below", Nets.sized(12, 16, 12), x -> x.walk(5, 1 << 11), 6);
    }

    private static void setIsRefused(Check.Maker maker, int set, String state) {
        CHECK.refuses("24 set " + set + state, maker, x -> x.walk(0, set), Check.ARGUMENT);
    }

    /** All valves are round the node 0, so each walk that there is has the length 0. */
    private static void allSetsOfTwelve() {
        ValveWalk walk = null;
        for (int set = 0; set < 4096; set++) {
            if (set % 400 == 0) {
                walk = Nets.sized(2, 12, 0);
                for (int pipe = 0; pipe < 12; pipe++) {
                    walk.addValve(pipe, 0);
                }
            }
            int asked = set;
            String due = Integer.bitCount(set) <= 6 ? "0" : "throws.IllegalArgumentException";
            CHECK.same("24 at most 6 valves, " + set, Check.said(walk, x -> x.walk(0, asked)), due);
        }
    }
}
