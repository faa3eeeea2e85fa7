/** "An object is used for at most 512 calls after it has been made": the 512th is as the first. */
public final class LastCallTest {
    private static final Check CHECK = new Check("LastCallTest");
    private static final int CALLS = 512;

    /** A call that is due as the last one: on which network, and what it answers. */
    private record Last(String name, Check.Maker maker, int made, Check.Call call, String due) {
    }

    // How many calls the makers below have used up.
    private static final int CROWDED = 44;
    private static final int NEARLY_FULL = 37;

    private static final Last[] LASTS = {
        last("2 addNode", LastCallTest::nearlyFull, NEARLY_FULL, x -> x.addNode(true), "11"),
        last("3 addPipe", LastCallTest::nearlyFull, NEARLY_FULL, x -> x.addPipe(0, 9, 9, 9), "15"),
        last("4 addValve", LastCallTest::nearlyFull, NEARLY_FULL, x -> x.addValve(9, 1), "11"),
        crowded("5 setSource", x -> Check.bit(x.setSource(7, false)), "1"),
        crowded("6 setStuck", x -> Check.bit(x.setStuck(8, false)), "1"),
        crowded("7 turn", x -> Check.bit(x.turn(3, false)), "1"),
        crowded("8 nodes", x -> x.nodes(), "12"),
        crowded("9 pipes", x -> x.pipes(), "16"),
        crowded("10 valves", x -> x.valves(), "12"),
        crowded("11 isNodeDry", x -> Check.bit(x.isNodeDry(3)), "0"),
        crowded("12 isPipeDry", x -> Check.bit(x.isPipeDry(8)), "0"),
        crowded("13 supplied", x -> x.supplied(), "136"),
        crowded("14 segments", x -> x.segments(), "9"),
        crowded("15 segmentOfNode", x -> x.segmentOfNode(10), "2"),
        crowded("16 segmentOfPipe", x -> x.segmentOfPipe(8), "7"),
        crowded("17 segmentByMerging", x -> x.segmentByMerging(10), "8"),
        crowded("18 ring", x -> x.ring(3), "1552"),
        crowded("19 cutOff", x -> x.cutOff(3), "39"),
        crowded("20 fewest", x -> x.fewest(3), "2"),
        crowded("21 fewestByTrying", x -> x.fewestByTrying(3), "1040"),
        crowded("22 distance", x -> x.distance(5), "71"),
        crowded("23 flushAt", x -> x.flushAt(15), "31"),
        crowded("24 walk", x -> x.walk(11, 0b111111000000), "190"),
        last("2 refused", Nets::crowded, CROWDED, x -> x.addNode(true), "throws.IllegalStateException"),
        crowded("3 refused", x -> x.addPipe(0, 0, 1, 1), "throws.IllegalArgumentException"),
        crowded("4 refused", x -> x.addValve(16, 0), "throws.IndexOutOfBoundsException"),
        crowded("7 refused", x -> Check.bit(x.turn(8, false)), "throws.IllegalStateException"),
        crowded("18 refused", x -> x.ring(12), "throws.IllegalStateException"),
        crowded("23 refused", x -> x.flushAt(16), "throws.IndexOutOfBoundsException"),
        crowded("24 refused", x -> x.walk(0, 127), "throws.IllegalArgumentException"),
    };

    /** Calls that leave the object as it is, one kind of them up to the 511th. */
    private static final Check.Call[] BEFORE = {
        x -> x.nodes(), x -> x.addPipe(0, 0, 0, 0), x -> x.addValve(0, 0), x -> x.segments(),
        x -> x.segmentByMerging(9), x -> x.fewest(3), x -> x.fewestByTrying(3), x -> x.cutOff(3),
        x -> x.flushAt(9), x -> x.distance(9), x -> x.walk(1, 0b10100110101),
        x -> Check.bit(x.turn(0, false)), x -> Check.bit(x.setStuck(1, false)),
        x -> Check.bit(x.setSource(0, true)), x -> x.supplied()};

    public static void main(String[] args) {
        afterCallsOfOneKind();
        afterCallsOfAllKinds();
        afterChangesToAndFro();
        growingAtTheEnd();
        CHECK.finish();
    }

    private static Last last(String name, Check.Maker maker, int made, Check.Call call, String due) {
        return new Last(name, maker, made, call, due);
    }

    private static Last crowded(String name, Check.Call call, String due) {
        return new Last(name, Nets::crowded, CROWDED, call, due);
    }

    /** 11 nodes, 15 pipes and 11 valves. */
    private static ValveWalk nearlyFull() {
        return Nets.sized(11, 15, 11);
    }

    private static void afterCallsOfOneKind() {
        for (Last last : LASTS) {
            for (int kind = 0; kind < BEFORE.length; kind++) {
                ValveWalk walk = last.maker().make();
                for (int call = last.made() + 1; call < CALLS; call++) {
                    Check.said(walk, BEFORE[kind]);
                }
                String what = last.name() + ", behind kind " + kind;
                CHECK.same(what, Check.said(walk, last.call()), last.due());
            }
        }
    }

    private static void afterCallsOfAllKinds() {
        for (Last last : LASTS) {
            ValveWalk fresh = last.maker().make();
            CHECK.same(last.name() + " at once", Check.said(fresh, last.call()), last.due());
            ValveWalk walk = last.maker().make();
            for (int call = last.made() + 1; call < CALLS; call++) {
                Check.said(walk, BEFORE[call % BEFORE.length]);
            }
            CHECK.same(last.name() + ", behind all", Check.said(walk, last.call()), last.due());
        }
    }

    /** Each of the 512 calls has its answer, the last ones too. */
    private static void afterChangesToAndFro() {
        ValveWalk walk = Nets.valvedRow(7, 1, 1);
        // The maker has made 25 calls.
        for (int call = 26; call <= CALLS; call++) {
            int round = call - 26;
            boolean isShut = round / 2 % 2 == 0;
            if (round % 2 == 0) {
                long due = Check.bit(!isShut);
                CHECK.answers("7 call " + call, walk, x -> Check.bit(x.turn(5, isShut)), due);
            } else {
                CHECK.answers("13 call " + call, walk, x -> x.supplied(), isShut ? 3 : 6);
            }
        }
        ValveWalk other = Nets.row(2, 1, 1);
        // The maker has made 3 calls.
        for (int call = 4; call <= CALLS; call++) {
            boolean isSource = call % 2 == 1;
            long due = 1 - call % 2;
            CHECK.answers("5 call " + call, other, x -> Check.bit(x.setSource(0, isSource)), due);
        }
    }

    /** Most calls are used up before anything is made. */
    private static void growingAtTheEnd() {
        ValveWalk walk = new ValveWalk();
        for (int call = 1; call <= CALLS - 41; call++) {
            CHECK.answers("8 call " + call, walk, x -> x.nodes(), 0);
        }
        for (int node = 0; node < 12; node++) {
            CHECK.answers("2 late", walk, x -> x.addNode(true), node);
        }
        for (int pipe = 0; pipe < 16; pipe++) {
            int from = pipe % 11;
            CHECK.answers("3 late", walk, x -> x.addPipe(from, from + 1, 99, 99), pipe);
        }
        for (int valve = 0; valve < 12; valve++) {
            int pipe = valve;
            CHECK.answers("4 late", walk, x -> x.addValve(pipe, 1), valve);
        }
        CHECK.answers("13 as the 512th", walk, x -> x.supplied(), 1584);
    }
}
