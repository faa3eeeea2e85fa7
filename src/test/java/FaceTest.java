import java.lang.reflect.Constructor;
import java.lang.reflect.Field;
import java.lang.reflect.Method;
import java.lang.reflect.Modifier;
import java.util.TreeSet;

/** The class shows the document's face, and nothing else. */
public final class FaceTest {
    private static final Check CHECK = new Check("FaceTest");
    private static final String[] DUE = {
        "boolean isNodeDry(int) I", "boolean isPipeDry(int) I", "boolean setSource(int, boolean) I",
        "boolean setStuck(int, boolean) I", "boolean turn(int, boolean) I S",
        "int addNode(boolean) S", "int addPipe(int, int, int, int) I A S",
        "int addValve(int, int) I A S", "int cutOff(int) I S", "int distance(int) I",
        "int fewest(int) I", "int fewestByTrying(int) I", "int flushAt(int) I", "int nodes()",
        "int pipes()", "int ring(int) I S", "int segmentByMerging(int) I",
        "int segmentOfNode(int) I", "int segmentOfPipe(int) I", "int segments()", "int supplied()",
        "int valves()", "int walk(int, int) I A"};

    public static void main(String[] args) {
        theClass();
        methods();
        namesInside();
        CHECK.finish();
    }

    private static void theClass() {
        int modifiers = ValveWalk.class.getModifiers();
        CHECK.same("class", Modifier.isPublic(modifiers) && Modifier.isFinal(modifiers), true);
        CHECK.same("NONE", ValveWalk.NONE, -1);
        Constructor<?>[] constructors = ValveWalk.class.getDeclaredConstructors();
        CHECK.same("constructors", constructors.length, 1);
        CHECK.same("constructor is public", Modifier.isPublic(constructors[0].getModifiers()), true);
        CHECK.same("constructor's arguments", constructors[0].getParameterCount(), 0);
        for (Field field : ValveWalk.class.getDeclaredFields()) {
            boolean isDue = field.getName().equals("NONE");
            int kind = field.getModifiers();
            boolean isRight = isDue ? Modifier.isPublic(kind) : Modifier.isPrivate(kind);
            CHECK.same("field " + field.getName(), isRight, true);
            boolean isState = Modifier.isStatic(kind) && !Modifier.isFinal(kind);
            CHECK.same("static state " + field.getName(), isState, false);
        }
    }

    private static void methods() {
        TreeSet<String> got = new TreeSet<>();
        for (Method method : ValveWalk.class.getDeclaredMethods()) {
            if (!Modifier.isPrivate(method.getModifiers())) {
                got.add(told(method));
            }
        }
        CHECK.same("methods", String.join("; ", got), String.join("; ", DUE));
    }

    /** Its type, name and arguments, and the first letters of its exceptions, in their order. */
    private static String told(Method method) {
        StringBuilder text = new StringBuilder();
        text.append(method.getReturnType()).append(' ').append(method.getName()).append('(');
        for (int place = 0; place < method.getParameterCount(); place++) {
            text.append(place == 0 ? "" : ", ").append(method.getParameterTypes()[place]);
        }
        text.append(')');
        for (Class<?> thrown : method.getExceptionTypes()) {
            String name = thrown.getSimpleName();
            text.append(' ').append(name.startsWith("IllegalS") ? "S" : name.contains("Arg") ? "A" : "I");
        }
        return text.toString();
    }

    /** No method that is not of the face bears the name of one of it. */
    private static void namesInside() {
        TreeSet<String> faceNames = new TreeSet<>();
        for (String due : DUE) {
            faceNames.add(due.substring(due.indexOf(' ') + 1, due.indexOf('(')));
        }
        for (Class<?> inside : ValveWalk.class.getDeclaredClasses()) {
            CHECK.same(inside + " is static", Modifier.isStatic(inside.getModifiers()), true);
            CHECK.same(inside + " is public", Modifier.isPublic(inside.getModifiers()), false);
            for (Method method : inside.getDeclaredMethods()) {
                CHECK.same(method.toString(), faceNames.contains(method.getName()), false);
            }
        }
        for (Method method : ValveWalk.class.getDeclaredMethods()) {
            boolean isHidden = Modifier.isPrivate(method.getModifiers());
            CHECK.same(method.toString(), isHidden && faceNames.contains(method.getName()), false);
        }
    }
}
