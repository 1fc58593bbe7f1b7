import java.util.Objects;

/** Counts what is as due and prints what is not. */
final class Check {

    /** A call that may throw. */
    interface Call {
        Object make();
    }

    private static int good = 0;
    private static int bad = 0;

    private Check() {
    }

    static void due(String what, Object want, Object got) {
        if (Objects.equals(want, got)) {
            good++;
        } else {
            bad++;
            System.out.println(what + " answered " + got + ", due is " + want);
        }
    }

    static void isTrue(String what, boolean holds) {
        due(what, true, holds);
    }

    /** What a call answers, or the name of what it throws, exactly that class. */
    static Object answer(Call call) {
        try {
            return call.make();
        } catch (RuntimeException | Error thrown) {
            return "throws." + thrown.getClass().getSimpleName();
        }
    }

    static void index(String what, Call call) {
        due(what, "throws.IndexOutOfBoundsException", answer(call));
    }

    static void argument(String what, Call call) {
        due(what, "throws.IllegalArgumentException", answer(call));
    }

    static void state(String what, Call call) {
        due(what, "throws.IllegalStateException", answer(call));
    }

    static int failures() {
        return bad;
    }

    static String sum() {
        return good + " checks as due, " + bad + " not";
    }
}
