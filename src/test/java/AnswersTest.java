/** Answers of 0 and of NONE, which of them when both seem due, and ties. */
public final class AnswersTest {
    private static final Check CHECK = new Check("AnswersTest");

    public static void main(String[] args) {
        CHECK.same("NONE", ValveWalk.NONE, -1);
        suppliedNobody();
        ringOfNothing();
        nobodyIsCutOff();
        dryNowNeedsNothing();
        cannotBeDryAsStuck();
        cannotBeDryAsNoValves();
        dryNowThoughNothingCouldBeShut();
        shutOnesDoNotCount();
        fewerBeatALesserNumber();
        leastAsANumber();
        leastOfManyPairs();
        allTwelve();
        distancesOfNoneAndZero();
        walksOfNoneAndZero();
        longestWalk();
        endsAlike();
        distancesAlike();
        CHECK.finish();
    }

    private static void fewestAre(String what, ValveWalk walk, int pipe, long count, long set) {
        CHECK.answers("20 " + what, walk, x -> x.fewest(pipe), count);
        CHECK.answers("21 " + what, walk, x -> x.fewestByTrying(pipe), set);
    }

    private static void suppliedNobody() {
        CHECK.answers("13 no pipes", Nets.sized(12, 0, 0), x -> x.supplied(), 0);
        CHECK.answers("13 no customers", Nets.row(12, 1, 0), x -> x.supplied(), 0);
        ValveWalk walk = Nets.valvedRow(2, 1, 9);
        CHECK.answers("13 all", walk, x -> x.supplied(), 9);
        walk.turn(1, true);
        CHECK.answers("13 in a pipe with a shut end", walk, x -> x.supplied(), 9);
        walk.turn(0, true);
        CHECK.answers("13 shut at both ends", walk, x -> x.supplied(), 0);
        walk.turn(1, false);
        CHECK.answers("13 shut at the source", walk, x -> x.supplied(), 0);
        walk.turn(0, false);
        walk.setSource(0, false);
        CHECK.answers("13 no source", walk, x -> x.supplied(), 0);
    }

    private static void ringOfNothing() {
        ValveWalk walk = Nets.valvedRow(2, 1, 9);
        walk.turn(0, true);
        walk.turn(1, true);
        CHECK.answers("18 both shut", walk, x -> x.ring(0), 0);
        walk.setStuck(0, true);
        walk.setStuck(1, true);
        CHECK.answers("18 both shut and stuck", walk, x -> x.ring(0), 0);
        walk.setSource(0, false);
        walk.setStuck(0, false);
        walk.turn(0, false);
        walk.setStuck(0, true);
        CHECK.answers("18 one stuck open, no source", walk, x -> x.ring(0), 0);
        ValveWalk bare = Nets.row(2, 1, 9);
        bare.setSource(0, false);
        CHECK.answers("18 no valves, no source", bare, x -> x.ring(0), 0);
    }

    private static void nobodyIsCutOff() {
        CHECK.answers("19 no customers", Nets.valvedRow(2, 1, 0), x -> x.cutOff(0), 0);
        ValveWalk dry = Nets.valvedRow(3, 1, 9);
        dry.turn(1, true);
        CHECK.answers("19 dry now", dry, x -> x.cutOff(1), 0);
        CHECK.answers("19 what is dry now does not count", dry, x -> x.cutOff(0), 9);
        dry.setSource(0, false);
        CHECK.answers("19 no source", dry, x -> x.cutOff(0), 0);
        // Behind the pipe 1 all have water from the other source too.
        ValveWalk both = Nets.valvedRow(4, 1, 9);
        both.setSource(3, true);
        CHECK.answers("19 fed from both sides", both, x -> x.cutOff(1), 9);
        both.turn(5, true);
        CHECK.answers("19 fed from one side", both, x -> x.cutOff(1), 18);
    }

    /** "0 if it is dry now" */
    private static void dryNowNeedsNothing() {
        ValveWalk walk = Nets.valvedRow(3, 1, 9);
        walk.turn(1, true);
        fewestAre("not dry, fed over one valve", walk, 0, 1, 1);
        fewestAre("dry behind a shut valve", walk, 1, 0, 0);
        walk.setStuck(1, true);
        fewestAre("dry behind one that is stuck too", walk, 1, 0, 0);
        walk.setSource(0, false);
        fewestAre("dry as there is no source", walk, 0, 0, 0);
        walk.setSource(2, true);
        fewestAre("not dry any more", walk, 1, 1, 8);
        fewestAre("still dry", walk, 0, 0, 0);
    }

    /** "NONE if it cannot be dry, as valves are stuck" */
    private static void cannotBeDryAsStuck() {
        ValveWalk walk = Nets.valvedRow(3, 1, 9);
        for (int valve = 0; valve < 4; valve++) {
            walk.setStuck(valve, true);
        }
        fewestAre("all are stuck", walk, 0, -1, -1);
        fewestAre("all are stuck", walk, 1, -1, -1);
        walk.setStuck(2, false);
        fewestAre("one is not, behind it", walk, 1, 1, 4);
        fewestAre("one is not, before it", walk, 0, -1, -1);
        ValveWalk two = Nets.sized(2, 2, 4);
        two.addPipe(1, 0, 1, 1);
        two.addPipe(0, 1, 1, 1);
        two.addValve(2, 1);
        fewestAre("a way without a valve", two, 2, -1, -1);
        two.addValve(3, 0);
        fewestAre("each way with a valve", two, 2, 4, 0b110101);
        two.setStuck(5, true);
        fewestAre("one way with a stuck one", two, 2, -1, -1);
        fewestAre("a pipe that has its own valves", two, 0, 2, 3);
    }

    /** "or are not there" */
    private static void cannotBeDryAsNoValves() {
        for (int pipe = 0; pipe < 16; pipe++) {
            fewestAre("no valves", Nets.sized(12, 16, 0), pipe, -1, -1);
        }
        ValveWalk atEnd1 = Nets.row(2, 1, 1);
        atEnd1.addValve(0, 1);
        fewestAre("a valve at the far end only", atEnd1, 0, -1, -1);
        ValveWalk atEnd0 = Nets.row(2, 1, 1);
        atEnd0.addValve(0, 0);
        fewestAre("a valve at the source", atEnd0, 0, 1, 1);
        atEnd0.setSource(1, true);
        fewestAre("a second source without one", atEnd0, 0, -1, -1);
    }

    /** It is dry now, so 0 is due, though no valve could be shut. */
    private static void dryNowThoughNothingCouldBeShut() {
        ValveWalk bare = Nets.sized(12, 16, 0);
        bare.setSource(0, false);
        fewestAre("no source and no valves", bare, 15, 0, 0);
        ValveWalk stuck = Nets.valvedRow(3, 1, 9);
        stuck.turn(0, true);
        for (int valve = 0; valve < 4; valve++) {
            stuck.setStuck(valve, true);
        }
        fewestAre("dry, and all are stuck", stuck, 0, 0, 0);
        fewestAre("dry, and all are stuck", stuck, 1, 0, 0);
    }

    /** "those that are shut already do not count" */
    private static void shutOnesDoNotCount() {
        ValveWalk walk = Nets.sized(2, 12, 0);
        walk.addNode(false);
        walk.addPipe(1, 2, 1, 1);
        for (int pipe = 0; pipe < 12; pipe++) {
            walk.addValve(pipe, 1);
        }
        for (int shut = 0; shut <= 12; shut++) {
            fewestAre(shut + " are shut", walk, 12, 12 - shut, 4095 >> shut << shut);
            if (shut < 12) {
                walk.turn(shut, true);
                walk.setStuck(shut, shut % 2 == 0);
            }
        }
    }

    /** "the set of the fewest valves": one of a high number ahead of two of low ones. */
    private static void fewerBeatALesserNumber() {
        ValveWalk walk = Nets.sized(2, 11, 0);
        walk.addNode(false);
        walk.addPipe(1, 2, 1, 1);
        for (int pipe = 0; pipe < 11; pipe++) {
            walk.addValve(pipe, 0);
        }
        fewestAre("eleven", walk, 11, 11, 2047);
        walk.addValve(11, 0);
        fewestAre("the last one instead of eleven", walk, 11, 1, 2048);
        walk.setStuck(11, true);
        fewestAre("the last one is stuck", walk, 11, 11, 2047);
    }

    /** "of several the one that is least as a number" */
    private static void leastAsANumber() {
        // The water comes over 0 and 3 side by side, then over 1 and 2 side by side.
        ValveWalk walk = Nets.row(4, 1, 1);
        walk.addPipe(0, 1, 1, 1);
        walk.addPipe(1, 2, 1, 1);
        walk.addValve(0, 0);
        walk.addValve(1, 0);
        walk.addValve(4, 0);
        walk.addValve(3, 0);
        fewestAre("1 and 2, not 0 and 3", walk, 2, 2, 0b0110);
        walk.setStuck(1, true);
        fewestAre("0 and 3, as 1 is stuck", walk, 2, 2, 0b1001);
        walk.setStuck(1, false);
        walk.turn(3, true);
        fewestAre("0 alone, as 3 is shut", walk, 2, 1, 0b0001);
        walk.turn(3, false);
        walk.turn(2, true);
        fewestAre("1 alone, as 2 is shut", walk, 2, 1, 0b0010);
        ValveWalk row = Nets.valvedRow(7, 1, 1);
        for (int valve = 0; valve < 12; valve++) {
            boolean isBehind = valve == 11;
            fewestAre("one in a row", row, 5, isBehind ? -1 : 1, isBehind ? -1 : 1 << valve);
            row.setStuck(valve, true);
        }
    }

    /** Six stages of two valves side by side each: the least of the pairs is at the last stage. */
    private static void leastOfManyPairs() {
        // By stage: its valves. Their sums fall from 2049 to 96.
        int[][] stages = {{0, 11}, {1, 10}, {2, 9}, {3, 8}, {4, 7}, {5, 6}};
        ValveWalk walk = Nets.sized(8, 0, 0);
        for (int pipe = 0; pipe < 12; pipe++) {
            walk.addPipe(pipe / 2, pipe / 2 + 1, 1, 1);
        }
        walk.addPipe(6, 7, 1, 1);
        int[] pipeOf = new int[12];
        for (int place = 0; place < 6; place++) {
            pipeOf[stages[place][0]] = 2 * place;
            pipeOf[stages[place][1]] = 2 * place + 1;
        }
        for (int pipe : pipeOf) {
            walk.addValve(pipe, 1);
        }
        for (int place = 5; place >= 0; place--) {
            long due = (1 << stages[place][0]) + (1 << stages[place][1]);
            fewestAre("the least of " + (place + 1) + " pairs", walk, 12, 2, due);
            walk.setStuck(stages[place][0], true);
        }
        fewestAre("no pair is left", walk, 12, -1, -1);
    }

    private static void allTwelve() {
        ValveWalk walk = Nets.sized(2, 12, 0);
        walk.addNode(false);
        walk.addPipe(2, 1, 1, 42);
        for (int pipe = 0; pipe < 12; pipe++) {
            walk.addValve(pipe, pipe % 2);
        }
        fewestAre("all twelve", walk, 12, 12, 4095);
        CHECK.answers("18 all twelve", walk, x -> x.ring(12), 4095);
        CHECK.answers("19 all twelve", walk, x -> x.cutOff(12), 42 + 1 + 3 + 5 + 7 + 9 + 11);
    }

    /** "NONE if it is dry" */
    private static void distancesOfNoneAndZero() {
        ValveWalk walk = Nets.valvedRow(3, 99, 1);
        CHECK.answers("22 the source", walk, x -> x.distance(0), 0);
        CHECK.answers("22 the last", walk, x -> x.distance(2), 198);
        walk.turn(3, true);
        CHECK.answers("22 dry, though its pipe is not", walk, x -> x.distance(2), -1);
        CHECK.answers("12 its pipe is not", walk, x -> Check.bit(x.isPipeDry(1)), 0);
        walk.turn(0, true);
        CHECK.answers("22 dry at its pipe's end", walk, x -> x.distance(1), -1);
        walk.setSource(0, false);
        CHECK.answers("22 no source", walk, x -> x.distance(0), -1);
        walk.setSource(2, true);
        CHECK.answers("22 a source that is shut off", walk, x -> x.distance(2), 0);
        walk.turn(3, false);
        CHECK.answers("22 from there", walk, x -> x.distance(1), 99);
        CHECK.answers("22 not over the shut one", walk, x -> x.distance(0), -1);
        CHECK.answers("22 alone", Nets.sized(12, 0, 0), x -> x.distance(11), -1);
    }

    /** "0 for no valves; NONE if there is no such walk" */
    private static void walksOfNoneAndZero() {
        for (int node = 0; node < 12; node++) {
            int from = node;
            CHECK.answers("24 no valves", Nets.crowded(), x -> x.walk(from, 0), 0);
            CHECK.answers("24 no pipes", Nets.sized(12, 0, 0), x -> x.walk(from, 0), 0);
        }
        ValveWalk walk = Nets.star(6, 99);
        walk.addNode(false);
        for (int valve = 0; valve < 6; valve++) {
            int set = 1 << valve;
            int at = valve + 1;
            CHECK.answers("24 at the valve", walk, x -> x.walk(at, set), 0);
            CHECK.answers("24 from the middle", walk, x -> x.walk(0, set), 99);
            CHECK.answers("24 from a node alone", walk, x -> x.walk(7, set), -1);
        }
        CHECK.answers("24 all from a node alone", walk, x -> x.walk(7, 63), -1);
        CHECK.answers("24 none from a node alone", walk, x -> x.walk(7, 0), 0);
        walk.addNode(false);
        walk.addPipe(7, 8, 1, 0);
        walk.addValve(6, 0);
        for (int valve = 0; valve < 6; valve++) {
            int set = 64 + (1 << valve);
            CHECK.answers("24 one of two, last", walk, x -> x.walk(0, set), -1);
            CHECK.answers("24 one of two, first", walk, x -> x.walk(7, set), -1);
        }
        CHECK.answers("24 five of six", walk, x -> x.walk(0, 0b1011111), -1);
        CHECK.answers("24 the one", walk, x -> x.walk(8, 64), 1);
        walk.addPipe(8, 0, 1, 0);
        CHECK.answers("24 all of six", walk, x -> x.walk(0, 0b1011111), 2 + 2 + 8 * 99 + 99);
    }

    /** Arms of two pipes, one of one: all of it to and fro, but the last arm. */
    private static void longestWalk() {
        ValveWalk walk = Nets.star(6, 99);
        for (int node = 1; node < 6; node++) {
            walk.addNode(false);
            walk.addPipe(node, node + 6, 99, 0);
            walk.addValve(5 + node, 1);
        }
        CHECK.answers("24 the longest", walk, x -> x.walk(0, 0b11111100000), 1980);
        CHECK.answers("24 back from an end", walk, x -> x.walk(11, 0b11111100000), 1782);
        ValveWalk row = Nets.row(12, 99, 0);
        row.addValve(0, 0);
        row.addValve(10, 1);
        CHECK.answers("24 to the nearer end first", row, x -> x.walk(5, 3), 16 * 99);
        CHECK.answers("24 from the middle, other side", row, x -> x.walk(6, 3), 16 * 99);
        CHECK.answers("24 from an end to the other", row, x -> x.walk(11, 3), 1089);
    }

    /** "of two alike from the end 0" */
    private static void endsAlike() {
        for (int away = 0; away < 2; away++) {
            // Nodes 1 and 2 are both as far from the source, and pipes 2 and 3 lie between them.
            ValveWalk walk = Nets.sized(3, 0, 0);
            walk.addPipe(0, 1, 10, 1);
            walk.addPipe(2, 0, 10 + away, 1);
            walk.addPipe(1, 2, 5, 1);
            walk.addPipe(2, 1, 5, 1);
            CHECK.answers("23 first", walk, x -> x.flushAt(0), 0);
            CHECK.answers("23 second", walk, x -> x.flushAt(1), 3);
            CHECK.answers("23 from 1, alike or nearer", walk, x -> x.flushAt(2), 4);
            CHECK.answers("23 alike, or 1 is nearer", walk, x -> x.flushAt(3), 6 + away);
        }
        ValveWalk sources = Nets.sized(3, 0, 0);
        sources.setSource(2, true);
        sources.addPipe(2, 0, 99, 0);
        sources.addPipe(0, 2, 1, 0);
        CHECK.answers("23 two sources", sources, x -> x.flushAt(0), 0);
        CHECK.answers("23 two sources", sources, x -> x.flushAt(1), 2);
    }

    /** "those alike by rising numbers" */
    private static void distancesAlike() {
        ValveWalk walk = Nets.sized(12, 0, 0);
        for (int pipe = 0; pipe < 11; pipe++) {
            int node = 11 - pipe;
            walk.addPipe(pipe % 2 == 0 ? 0 : node, pipe % 2 == 0 ? node : 0, 99 - 9 * pipe, 0);
        }
        for (int place = 0; place < 11; place++) {
            int at = place;
            CHECK.answers("23 all from the source", walk, x -> x.flushAt(at), 2 * place + place % 2);
        }
        CHECK.refuses("23 no more", () -> Nets.row(12, 1, 1), x -> x.flushAt(11), Check.INDEX);
        ValveWalk two = Nets.sized(6, 0, 0);
        two.addPipe(2, 3, 1, 0);
        two.addPipe(5, 1, 1, 0);
        two.addPipe(0, 2, 40, 0);
        two.addPipe(1, 0, 40, 0);
        two.addPipe(4, 2, 1, 0);
        int[] due = {4, 7, 0, 3, 9};
        for (int place = 0; place < due.length; place++) {
            int at = place;
            CHECK.answers("23 alike behind two nodes", two, x -> x.flushAt(at), due[place]);
        }
    }
}
