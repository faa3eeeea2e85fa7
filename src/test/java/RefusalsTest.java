/**
 * "If several exceptions of a throws clause apply, the one that is listed first is thrown. A call
 * that throws an exception changes nothing." Each exception of each throws clause, alone and with
 * others; what refuses() asks of a call is also that nothing has changed behind it.
 */
public final class RefusalsTest {
    private static final Check CHECK = new Check("RefusalsTest");

    public static void main(String[] args) {
        addPipeAlone();
        addPipeWithSeveral();
        addValveAlone();
        addValveWithSeveral();
        turnWhenStuck();
        sourcesAndStuckKeep();
        ringAndCutOffWithSource();
        ringAndCutOffWithSeveral();
        ringAndCutOffWithoutSource();
        walkAlone();
        walkWithSeveral();
        questionsChangeNothing();
        manyRefusalsChangeNothing();
        CHECK.finish();
    }

    private static ValveWalk fewPipes() {
        return Nets.valvedRow(3, 7, 5);
    }

    private static void addPipeAlone() {
        Check.Maker few = RefusalsTest::fewPipes;
        CHECK.refuses("3 no from", few, x -> x.addPipe(3, 0, 1, 0), Check.INDEX);
        CHECK.refuses("3 no to", few, x -> x.addPipe(0, 3, 1, 0), Check.INDEX);
        CHECK.refuses("3 neither", few, x -> x.addPipe(-1, 3, 1, 0), Check.INDEX);
        for (int node = 0; node < 3; node++) {
            int same = node;
            CHECK.refuses("3 same " + node, few, x -> x.addPipe(same, same, 1, 0), Check.ARGUMENT);
        }
        CHECK.refuses("3 length 0", few, x -> x.addPipe(0, 1, 0, 0), Check.ARGUMENT);
        CHECK.refuses("3 length 100", few, x -> x.addPipe(0, 1, 100, 0), Check.ARGUMENT);
        CHECK.refuses("3 customers -1", few, x -> x.addPipe(0, 1, 1, -1), Check.ARGUMENT);
        CHECK.refuses("3 customers 100", few, x -> x.addPipe(0, 1, 1, 100), Check.ARGUMENT);
        CHECK.refuses("3 both", few, x -> x.addPipe(0, 1, 0, 100), Check.ARGUMENT);
        CHECK.answers("3 not the same", few.make(), x -> x.addPipe(2, 0, 1, 0), 2);
        CHECK.answers("3 beside another", few.make(), x -> x.addPipe(0, 1, 7, 5), 2);
        CHECK.answers("3 back beside another", few.make(), x -> x.addPipe(1, 0, 7, 5), 2);
        CHECK.refuses("3 17th", Nets::crowded, x -> x.addPipe(0, 1, 1, 0), Check.STATE);
    }

    private static void addPipeWithSeveral() {
        for (Check.Maker maker : new Check.Maker[] {RefusalsTest::fewPipes, Nets::crowded}) {
            pipeIsRefused(maker, 12, 0, 0, 0, Check.INDEX);
            pipeIsRefused(maker, 12, 0, 1, 100, Check.INDEX);
            pipeIsRefused(maker, 0, 12, 100, -1, Check.INDEX);
            pipeIsRefused(maker, 12, 12, 1, 0, Check.INDEX);
            pipeIsRefused(maker, -1, -1, 0, -1, Check.INDEX);
            pipeIsRefused(maker, 0, -1, 1, 0, Check.INDEX);
            pipeIsRefused(maker, -1, 0, 99, 99, Check.INDEX);
            pipeIsRefused(maker, 0, 0, 1, 0, Check.ARGUMENT);
            pipeIsRefused(maker, 2, 2, 0, 100, Check.ARGUMENT);
            pipeIsRefused(maker, 0, 1, 0, 0, Check.ARGUMENT);
            pipeIsRefused(maker, 0, 1, 100, 99, Check.ARGUMENT);
            pipeIsRefused(maker, 1, 0, 99, 100, Check.ARGUMENT);
            pipeIsRefused(maker, 1, 0, 1, -1, Check.ARGUMENT);
        }
    }

    private static void pipeIsRefused(Check.Maker maker, int from, int to, int length,
            int customers, Class<? extends RuntimeException> due) {
        String what = "3 several, " + from + " " + to + " " + length + " " + customers;
        CHECK.refuses(what, maker, x -> x.addPipe(from, to, length, customers), due);
    }

    private static void addValveAlone() {
        Check.Maker twoPipes = () -> Nets.row(3, 7, 5);
        CHECK.refuses("4 no pipe", twoPipes, x -> x.addValve(2, 0), Check.INDEX);
        CHECK.refuses("4 no end", twoPipes, x -> x.addValve(1, 2), Check.ARGUMENT);
        CHECK.refuses("4 no end", twoPipes, x -> x.addValve(1, -1), Check.ARGUMENT);
        // As made, stuck, shut, and both.
        for (int state = 0; state < 4; state++) {
            boolean isStuck = (state & 1) != 0;
            boolean isShut = (state & 2) != 0;
            for (int end = 0; end < 2; end++) {
                int taken = end;
                Check.Maker one = () -> {
                    ValveWalk walk = twoPipes.make();
                    walk.addValve(0, taken);
                    walk.turn(0, isShut);
                    walk.setStuck(0, isStuck);
                    return walk;
                };
                CHECK.refuses("4 there is one", one, x -> x.addValve(0, taken), Check.STATE);
                CHECK.answers("4 other end", one.make(), x -> x.addValve(0, 1 - taken), 1);
                CHECK.answers("4 other pipe", one.make(), x -> x.addValve(1, taken), 1);
            }
        }
        CHECK.refuses("4 13th", Nets::crowded, x -> x.addValve(1, 0), Check.STATE);
        CHECK.refuses("4 13th and there is one", Nets::crowded, x -> x.addValve(0, 0), Check.STATE);
    }

    private static void addValveWithSeveral() {
        for (Check.Maker maker : new Check.Maker[] {RefusalsTest::fewPipes, Nets::crowded}) {
            for (int end : new int[] {-1, 0, 1, 2}) {
                CHECK.refuses("4 no pipe, " + end, maker, x -> x.addValve(16, end), Check.INDEX);
                CHECK.refuses("4 no pipe, " + end, maker, x -> x.addValve(-1, end), Check.INDEX);
            }
            for (int end : new int[] {-1, 2}) {
                CHECK.refuses("4 no end, " + end, maker, x -> x.addValve(0, end), Check.ARGUMENT);
                CHECK.refuses("4 no end, " + end, maker, x -> x.addValve(1, end), Check.ARGUMENT);
            }
        }
    }

    /** "it may be stuck: then it stays as it is" */
    private static void turnWhenStuck() {
        for (int valve = 0; valve < 12; valve++) {
            int number = valve;
            for (boolean isShut : new boolean[] {false, true}) {
                Check.Maker stuck = () -> {
                    ValveWalk walk = Nets.sized(12, 16, 12);
                    walk.turn(number, isShut);
                    walk.setStuck(number, true);
                    return walk;
                };
                String what = "7 stuck, " + valve + (isShut ? " shut" : " open");
                CHECK.refuses(what, stuck, x -> Check.bit(x.turn(number, true)), Check.STATE);
                CHECK.refuses(what, stuck, x -> Check.bit(x.turn(number, false)), Check.STATE);
                ValveWalk again = stuck.make();
                again.setStuck(number, false);
                long due = Check.bit(isShut);
                CHECK.answers(what + " before", again, x -> Check.bit(x.turn(number, true)), due);
                CHECK.answers(what + " again", again, x -> Check.bit(x.turn(number, false)), 1);
            }
        }
        Check.Maker allStuck = () -> {
            ValveWalk walk = Nets.sized(12, 16, 11);
            for (int valve = 0; valve < 11; valve++) {
                walk.setStuck(valve, true);
            }
            return walk;
        };
        CHECK.refuses("7 no valve", allStuck, x -> Check.bit(x.turn(11, true)), Check.INDEX);
        CHECK.refuses("7 no valve", allStuck, x -> Check.bit(x.turn(-1, false)), Check.INDEX);
        CHECK.refuses("7 the last one", allStuck, x -> Check.bit(x.turn(10, true)), Check.STATE);
    }

    /** What is told again stays as it is, and nothing else is changed by it. */
    private static void sourcesAndStuckKeep() {
        for (int number = 0; number < 12; number++) {
            int same = number;
            boolean isSource = same == 0 || same == 7;
            boolean isStuck = same == 5 || same == 8;
            Check.Call source = x -> Check.bit(x.setSource(same, isSource));
            Check.Call stuck = x -> Check.bit(x.setStuck(same, isStuck));
            CHECK.answers("5 told again", Nets.crowded(), source, Check.bit(isSource));
            CHECK.answers("6 told again", Nets.crowded(), stuck, Check.bit(isStuck));
            CHECK.changesNothing("5 told again, " + number, Nets::crowded, source);
            CHECK.changesNothing("6 told again, " + number, Nets::crowded, stuck);
            if (!isStuck) {
                boolean isShut = same == 3;
                Check.Call turn = x -> Check.bit(x.turn(same, isShut));
                CHECK.answers("7 told again", Nets.crowded(), turn, Check.bit(isShut));
                CHECK.changesNothing("7 told again, " + number, Nets::crowded, turn);
            }
        }
    }

    private static void breakIsRefused(String what, Check.Maker maker, int pipe) {
        CHECK.refuses("18 " + what, maker, x -> x.ring(pipe), Check.STATE);
        CHECK.refuses("19 " + what, maker, x -> x.cutOff(pipe), Check.STATE);
    }

    /** "if the region has a source" */
    private static void ringAndCutOffWithSource() {
        breakIsRefused("a source at the end 0", () -> Nets.row(2, 1, 1), 0);
        breakIsRefused("a source at the end 1", () -> {
            ValveWalk walk = Nets.row(2, 1, 1);
            walk.setSource(0, false);
            walk.setSource(1, true);
            return walk;
        }, 0);
        breakIsRefused("a source far off", () -> Nets.row(12, 1, 1), 10);
        breakIsRefused("a valve at the other end", () -> {
            ValveWalk walk = Nets.row(2, 1, 1);
            walk.addValve(0, 1);
            return walk;
        }, 0);
        breakIsRefused("a valve that is stuck open", () -> {
            ValveWalk walk = Nets.valvedRow(2, 1, 1);
            walk.setStuck(0, true);
            return walk;
        }, 0);
        breakIsRefused("many that are stuck open", () -> {
            ValveWalk walk = Nets.valvedRow(7, 1, 1);
            for (int valve = 0; valve < 11; valve++) {
                walk.setStuck(valve, true);
            }
            return walk;
        }, 5);
        breakIsRefused("a source that is cut off otherwise", () -> {
            ValveWalk walk = Nets.valvedRow(3, 1, 1);
            walk.setSource(2, true);
            walk.setStuck(3, true);
            walk.turn(2, true);
            return walk;
        }, 1);
    }

    private static void ringAndCutOffWithSeveral() {
        for (int pipe : new int[] {-1, 11, Integer.MIN_VALUE, Integer.MAX_VALUE}) {
            Check.Maker row = () -> Nets.row(12, 1, 1);
            CHECK.refuses("18 no pipe, and a source", row, x -> x.ring(pipe), Check.INDEX);
            CHECK.refuses("19 no pipe, and a source", row, x -> x.cutOff(pipe), Check.INDEX);
        }
    }

    /** No source in the region, though there is one behind its bounds. */
    private static void ringAndCutOffWithoutSource() {
        ValveWalk open = Nets.valvedRow(2, 1, 9);
        CHECK.answers("18 open, not stuck", open, x -> x.ring(0), 3);
        CHECK.answers("19 open, not stuck", open, x -> x.cutOff(0), 9);
        open.turn(0, true);
        CHECK.answers("18 shut", open, x -> x.ring(0), 2);
        CHECK.answers("19 shut", open, x -> x.cutOff(0), 0);
        open.setStuck(0, true);
        CHECK.answers("18 shut and stuck", open, x -> x.ring(0), 2);
        CHECK.answers("19 shut and stuck", open, x -> x.cutOff(0), 0);
        ValveWalk none = Nets.row(2, 1, 9);
        none.setSource(0, false);
        CHECK.answers("18 no source any more", none, x -> x.ring(0), 0);
        CHECK.answers("19 no source any more", none, x -> x.cutOff(0), 0);
    }

    private static void walkAlone() {
        CHECK.refuses("24 no node", Nets::crowded, x -> x.walk(12, 1), Check.INDEX);
        CHECK.refuses("24 below 0", Nets::crowded, x -> x.walk(0, -1), Check.ARGUMENT);
        CHECK.refuses("24 no valve", () -> Nets.sized(12, 16, 5), x -> x.walk(0, 32), Check.ARGUMENT);
        CHECK.refuses("24 one and no valve", () -> Nets.sized(12, 16, 5), x -> x.walk(0, 33),
            Check.ARGUMENT);
        CHECK.refuses("24 more than 6", Nets::crowded, x -> x.walk(0, 127), Check.ARGUMENT);
        CHECK.refuses("24 more than 6", Nets::crowded, x -> x.walk(0, 0b101010110111), Check.ARGUMENT);
        CHECK.refuses("24 below 0, few bits", Nets::crowded, x -> x.walk(0, Integer.MIN_VALUE),
            Check.ARGUMENT);
        CHECK.refuses("24 more than 6, no valve", () -> Nets.sized(12, 16, 5), x -> x.walk(0, 255),
            Check.ARGUMENT);
        // The first valve that there is not, and no other, for each count of valves.
        for (int valves = 0; valves <= 12; valves++) {
            int count = valves;
            Check.Maker some = () -> Nets.sized(12, 16, count);
            CHECK.refuses("24 valve " + count, some, x -> x.walk(0, 1 << count), Check.ARGUMENT);
        }
    }

    private static void walkWithSeveral() {
        for (int node : new int[] {-1, 12, Integer.MIN_VALUE, Integer.MAX_VALUE}) {
            for (int set : new int[] {0, 1, -1, 127, 4095, 4096, Integer.MIN_VALUE}) {
                String what = "24 no node " + node + ", set " + set;
                CHECK.refuses(what, Nets::crowded, x -> x.walk(node, set), Check.INDEX);
            }
        }
    }

    /** "nothing from here on changes anything" */
    private static void questionsChangeNothing() {
        for (Check.Maker maker : new Check.Maker[] {Nets::crowded, Nets::full, Nets::mixed,
            Nets::empty, () -> Nets.sized(12, 16, 12), () -> Nets.sized(3, 2, 1)}) {
            CHECK.changesNothing("all questions", maker, RefusalsTest::askAll);
        }
    }

    private static long askAll(ValveWalk walk) {
        long sum = walk.nodes() + walk.pipes() + walk.valves() + walk.supplied() + walk.segments();
        for (int number = 11; number >= 0; number--) {
            int asked = number;
            Check.Call[] calls = {x -> Check.bit(x.isNodeDry(asked)), x -> x.segmentOfNode(asked),
                x -> x.distance(asked), x -> x.walk(asked, 0b101101), x -> x.flushAt(asked),
                x -> Check.bit(x.isPipeDry(asked)), x -> x.segmentOfPipe(asked),
                x -> x.segmentByMerging(asked), x -> x.ring(asked), x -> x.cutOff(asked),
                x -> x.fewest(asked), x -> x.fewestByTrying(asked)};
            for (Check.Call call : calls) {
                sum += Check.said(walk, call).length();
            }
        }
        return sum;
    }

    private static void manyRefusalsChangeNothing() {
        Check.Call[] wrong = {x -> x.addNode(true), x -> x.addPipe(0, 1, 1, 99),
            x -> x.addPipe(1, 1, 1, 1), x -> x.addPipe(12, 0, 1, 1), x -> x.addValve(1, 0),
            x -> x.addValve(0, 2), x -> x.addValve(16, 0), x -> Check.bit(x.setSource(12, true)),
            x -> Check.bit(x.setStuck(12, true)), x -> Check.bit(x.turn(5, true)),
            x -> Check.bit(x.turn(8, false)), x -> Check.bit(x.turn(12, true)), x -> x.ring(12),
            x -> x.cutOff(11), x -> x.flushAt(-1), x -> x.walk(0, 4095)};
        CHECK.changesNothing("16 refused calls, 8 times each", Nets::crowded, x -> {
            int refused = 0;
            for (int time = 0; time < 8 * wrong.length; time++) {
                String said = Check.said(x, wrong[time % wrong.length]);
                CHECK.same("refused, " + time % 16 + " " + said, said.startsWith("throws."), true);
                refused++;
            }
            return refused;
        });
    }
}
