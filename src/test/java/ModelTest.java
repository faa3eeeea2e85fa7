import java.util.Random;

/** Long runs of calls, good ones and wrong ones, answered by the program and by the model. */
public final class ModelTest {
    private static final Check CHECK = new Check("ModelTest");
    private static final int RUNS = 600;
    private static final int CALLS = 512;

    public static void main(String[] args) {
        for (int run = 0; run < RUNS; run++) {
            run(run, new Random(run));
        }
        CHECK.finish();
    }

    private static void run(int run, Random random) {
        ValveWalk walk = new ValveWalk();
        Model model = new Model();
        // Some nets grow full at once, others stay small for long.
        int building = 20 + random.nextInt(60);
        for (int call = 0; call < CALLS; call++) {
            boolean isEarly = call < building || random.nextInt(20) == 0;
            int kind = isEarly ? random.nextInt(9) : 3 + random.nextInt(20);
            int[] told = arguments(kind, model, random);
            String got = Check.said(walk, x -> ask(x, kind, told));
            String due = Check.said(walk, x -> ask(model, kind, told));
            CHECK.same("run " + run + ", call " + call + " of kind " + kind, got, due);
        }
    }

    private static int[] arguments(int kind, Model model, Random random) {
        int node = near(model.nodes(), random);
        int pipe = near(model.pipes(), random);
        int valve = near(model.valves(), random);
        int flag = random.nextInt(3) == 0 ? 1 : 0;
        return switch (kind) {
            case 0 -> new int[] {flag};
            case 1, 7, 8 -> new int[] {node, near(model.nodes(), random), within(1, 99, random),
                within(0, 99, random)};
            case 2, 6 -> new int[] {pipe, within(0, 1, random)};
            case 3, 9, 13, 20 -> new int[] {node, flag};
            case 4, 5 -> new int[] {valve, flag};
            case 21 -> new int[] {random.nextInt(19) - 1};
            case 22 -> new int[] {node, set(model.valves(), random)};
            default -> new int[] {pipe};
        };
    }

    /** Mostly a number below the count, but at times one that is out of range. */
    private static int near(int count, Random random) {
        if (count == 0 || random.nextInt(25) == 0) {
            return random.nextBoolean() ? count : -1 - random.nextInt(2);
        }
        return random.nextInt(count);
    }

    private static int within(int least, int most, Random random) {
        return switch (random.nextInt(30)) {
            case 0 -> least - 1;
            case 1 -> most + 1;
            case 2, 3 -> least;
            case 4, 5 -> most;
            default -> least + random.nextInt(most - least + 1);
        };
    }

    private static int set(int count, Random random) {
        return switch (random.nextInt(12)) {
            case 0 -> -1 - random.nextInt(9);
            case 1 -> 1 << count;
            case 2, 3 -> random.nextInt(1 << count);
            default -> random.nextInt(1 << count) & random.nextInt(1 << count);
        };
    }

    private static long ask(ValveWalk x, int kind, int[] a) {
        return switch (kind) {
            case 0 -> x.addNode(a[0] == 1);
            case 1, 7, 8 -> x.addPipe(a[0], a[1], a[2], a[3]);
            case 2, 6 -> x.addValve(a[0], a[1]);
            case 3 -> Check.bit(x.setSource(a[0], a[1] == 1));
            case 4 -> Check.bit(x.setStuck(a[0], a[1] == 1));
            case 5 -> Check.bit(x.turn(a[0], a[1] == 1));
            case 9 -> Check.bit(x.isNodeDry(a[0]));
            case 10 -> Check.bit(x.isPipeDry(a[0]));
            case 11 -> x.supplied();
            case 12 -> x.segments();
            case 13 -> x.segmentOfNode(a[0]);
            case 14 -> x.segmentOfPipe(a[0]);
            case 15 -> x.segmentByMerging(a[0]);
            case 16 -> x.ring(a[0]);
            case 17 -> x.cutOff(a[0]);
            case 18 -> x.fewest(a[0]);
            case 19 -> x.fewestByTrying(a[0]);
            case 20 -> x.distance(a[0]);
            case 21 -> x.flushAt(a[0]);
            case 22 -> x.walk(a[0], a[1]);
            default -> 1_000_000L * x.nodes() + 1_000L * x.pipes() + x.valves();
        };
    }

    private static long ask(Model x, int kind, int[] a) {
        return switch (kind) {
            case 0 -> x.addNode(a[0] == 1);
            case 1, 7, 8 -> x.addPipe(a[0], a[1], a[2], a[3]);
            case 2, 6 -> x.addValve(a[0], a[1]);
            case 3 -> Check.bit(x.setSource(a[0], a[1] == 1));
            case 4 -> Check.bit(x.setStuck(a[0], a[1] == 1));
            case 5 -> Check.bit(x.turn(a[0], a[1] == 1));
            case 9 -> Check.bit(x.isNodeDry(a[0]));
            case 10 -> Check.bit(x.isPipeDry(a[0]));
            case 11 -> x.supplied();
            case 12 -> x.segments();
            case 13 -> x.segmentOfNode(a[0]);
            case 14, 15 -> x.segmentOfPipe(a[0]);
            case 16 -> x.ring(a[0]);
            case 17 -> x.cutOff(a[0]);
            case 18 -> x.fewest(a[0]);
            case 19 -> x.fewestByTrying(a[0]);
            case 20 -> x.distance(a[0]);
            case 21 -> x.flushAt(a[0]);
            case 22 -> x.walk(a[0], a[1]);
            default -> 1_000_000L * x.nodes() + 1_000L * x.pipes() + x.valves();
        };
    }
}
