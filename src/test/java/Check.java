import java.util.IdentityHashMap;
import java.util.Map;

/** Counts what is as due and what is not, and tells the latter. */
final class Check {
    /** A call of the face; a boolean counts 1 or 0. */
    interface Call {
        long on(ValveWalk walk);
    }

    /** Makes an object in the same state each time. */
    interface Maker {
        ValveWalk make();
    }

    static final Class<? extends RuntimeException> INDEX = IndexOutOfBoundsException.class;
    static final Class<? extends RuntimeException> ARGUMENT = IllegalArgumentException.class;
    static final Class<? extends RuntimeException> STATE = IllegalStateException.class;

    private final String name;
    private final Map<Maker, String> madeBy = new IdentityHashMap<>();
    private int right;
    private int wrong;

    Check(String name) {
        this.name = name;
    }

    static long bit(boolean value) {
        return value ? 1 : 0;
    }

    /** The answer of a call as a text, or which exception it threw. */
    static String said(ValveWalk walk, Call call) {
        try {
            return String.valueOf(call.on(walk));
        } catch (RuntimeException thrown) {
            return "throws." + thrown.getClass().getSimpleName();
        }
    }

    void same(String what, Object got, Object due) {
        if (got.equals(due)) {
            right++;
        } else {
            wrong++;
            System.out.println(name + ", " + what + ": " + got + ", due is " + due);
        }
    }

    void answers(String what, ValveWalk walk, Call call, long due) {
        same(what, said(walk, call), String.valueOf(due));
    }

    /** The call throws just this, and the object is as one on which it was not made. */
    void refuses(String what, Maker maker, Call call, Class<? extends RuntimeException> due) {
        same(what, said(maker.make(), call), "throws." + due.getSimpleName());
        changesNothing(what, maker, call);
    }

    void changesNothing(String what, Maker maker, Call call) {
        Maker asked = () -> {
            ValveWalk walk = maker.make();
            said(walk, call);
            return walk;
        };
        String due = madeBy.computeIfAbsent(maker, Snapshot::of);
        same(what + ", then", Snapshot.of(asked), due);
    }

    void finish() {
        System.out.println(name + ": " + right + " as due, " + wrong + " not");
        if (wrong != 0 || right == 0) {
            System.exit(1);
        }
    }
}
