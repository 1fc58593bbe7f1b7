import java.util.Objects;

/** Counts what is as due, promise by promise, and prints what is not. */
final class Check {

    /** A call that may throw. */
    interface Call {
        Object make();
    }

    private static final int PROMISES = 28;
    private static final int NO_PROMISE = 0;
    private static final int[] MADE = new int[PROMISES + 1];

    private static int promise = NO_PROMISE;
    private static int good = 0;
    private static int bad = 0;

    private Check() {
    }

    /** All checks that follow hold this promise of the document. */
    static void promise(int number) {
        promise = number;
    }

    static void noPromise() {
        promise = NO_PROMISE;
    }

    static void due(String what, Object want, Object got) {
        MADE[promise]++;
        if (Objects.equals(want, got)) {
            good++;
        } else {
            bad++;
            String heading = promise == NO_PROMISE ? "" : "promise " + promise + ": ";
            System.out.println(heading + what + " answered " + got + ", due is " + want);
        }
    }

    static void isTrue(String what, boolean holds) {
        due(what, true, holds);
    }

    /** What a call answers, or the name of what it throws, exactly that class. */
    static Object answer(Call call) {
        try {
            return call.make();
        } catch (RuntimeException | Error thrown) {
            return "throws." + thrown.getClass().getSimpleName();
        }
    }

    static void everyPromiseWasChecked() {
        noPromise();
        for (int number = 1; number <= PROMISES; number++) {
            isTrue("promise " + number + " has checks", MADE[number] > 0);
        }
    }

    static int failures() {
        return bad;
    }

    static String sum() {
        return good + " checks as due, " + bad + " not";
    }
}
