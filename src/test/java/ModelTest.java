import java.lang.reflect.InvocationTargetException;
import java.lang.reflect.Method;
import java.util.HashMap;
import java.util.Map;
import java.util.Random;

/** Long runs of calls, good ones and wrong ones, answered by the program and by the model. */
public final class ModelTest {
    private static final Check CHECK = new Check("ModelTest");
    private static final int RUNS = 250;
    private static final int CALLS = 512;
    private static final String[] BUILDING = {
        "addNode", "addPipe", "addPipe", "addPipe", "addValve", "addValve", "setSource", "setStuck",
        "turn"};
    private static final String[] ASKING = {
        "addPipe", "addValve", "setSource", "setStuck", "turn", "nodes", "pipes", "valves",
        "isNodeDry", "isPipeDry", "supplied", "segments", "segmentOfNode", "segmentOfPipe",
        "segmentByMerging", "ring", "cutOff", "fewest", "fewestByTrying", "distance", "flushAt",
        "walk"};
    private static final Map<String, Method> PROGRAM = methodsOf(ValveWalk.class);
    private static final Map<String, Method> MODEL = methodsOf(Model.class);

    public static void main(String[] args) {
        for (int run = 0; run < RUNS; run++) {
            run(run, new Random(run));
        }
        CHECK.finish();
    }

    private static void run(int run, Random random) {
        ValveWalk walk = new ValveWalk();
        Model model = new Model();
        // Some nets grow full at once, others stay small for long.
        int building = 20 + random.nextInt(120);
        for (int call = 0; call < CALLS; call++) {
            boolean isBuilding = call < building || random.nextInt(20) == 0;
            String[] names = isBuilding ? BUILDING : ASKING;
            String name = names[random.nextInt(names.length)];
            int[] told = arguments(name, model, random);
            String got = answer(walk, PROGRAM.get(name), told);
            String due = answer(model, MODEL.get(name), told);
            CHECK.same("run " + run + ", call " + call + ", " + name, got, due);
        }
    }

    private static int[] arguments(String name, Model model, Random random) {
        int node = near(model.nodes(), random);
        int pipe = near(model.pipes(), random);
        int valve = near(model.valves(), random);
        return switch (name) {
            case "addNode" -> new int[] {flag(5, random)};
            case "addPipe" -> new int[] {node, near(model.nodes(), random), within(1, 99, random),
                within(0, 99, random)};
            case "addValve" -> new int[] {pipe, within(0, 1, random)};
            case "setSource" -> new int[] {node, flag(5, random)};
            case "setStuck", "turn" -> new int[] {valve, flag(7, random)};
            case "isNodeDry", "segmentOfNode", "distance" -> new int[] {node};
            case "flushAt" -> new int[] {random.nextInt(random.nextBoolean() ? 5 : 19) - 1};
            case "walk" -> new int[] {node, set(model.valves(), random)};
            case "nodes", "pipes", "valves", "supplied", "segments" -> new int[0];
            default -> new int[] {pipe};
        };
    }

    /** Few sources, and few valves that are shut or stuck, leave the most to find. */
    private static int flag(int outOf, Random random) {
        return random.nextInt(outOf) == 0 ? 1 : 0;
    }

    /** Mostly a number below the count, but at times one that is out of range. */
    private static int near(int count, Random random) {
        if (count == 0 || random.nextInt(25) == 0) {
            return random.nextBoolean() ? count : -1 - random.nextInt(2);
        }
        return random.nextInt(count);
    }

    private static int within(int least, int most, Random random) {
        return switch (random.nextInt(30)) {
            case 0 -> least - 1;
            case 1 -> most + 1;
            case 2, 3 -> least;
            case 4, 5 -> most;
            default -> least + random.nextInt(most - least + 1);
        };
    }

    private static int set(int count, Random random) {
        return switch (random.nextInt(12)) {
            case 0 -> -1 - random.nextInt(9);
            case 1 -> 1 << count;
            case 2, 3 -> random.nextInt(1 << count);
            default -> random.nextInt(1 << count) & random.nextInt(1 << count);
        };
    }

    private static Map<String, Method> methodsOf(Class<?> kind) {
        Map<String, Method> methods = new HashMap<>();
        for (Method method : kind.getDeclaredMethods()) {
            methods.put(method.getName(), method);
        }
        return methods;
    }

    private static String answer(Object asked, Method method, int[] told) {
        Object[] arguments = new Object[told.length];
        for (int place = 0; place < told.length; place++) {
            boolean isFlag = method.getParameterTypes()[place] == boolean.class;
            arguments[place] = isFlag ? (Object) (told[place] == 1) : (Object) told[place];
        }
        try {
            return String.valueOf(method.invoke(asked, arguments));
        } catch (InvocationTargetException thrown) {
            return "throws." + thrown.getCause().getClass().getSimpleName();
        } catch (IllegalAccessException refused) {
            throw new IllegalStateException(refused);
        }
    }
}
