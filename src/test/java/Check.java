import java.util.Objects;
import java.util.function.Supplier;

/** What the tests of the project share: counts what is as due, and prints what is not. */
final class Check {
    private static int right;
    private static int wrong;

    private Check() {
    }

    static void same(String what, Object due, Object got) {
        if (Objects.equals(due, got)) {
            right++;
            return;
        }
        wrong++;
        if (wrong <= 40) {
            System.out.println(what + ": answered " + got + ", due is " + due);
        }
    }

    static void fails(String what, Class<? extends RuntimeException> due, Runnable call) {
        Class<?> got = null;
        try {
            call.run();
        } catch (RuntimeException e) {
            got = e.getClass();
        }
        same(what, due, got);
    }

    /** A call that tells a number and changes nothing. */
    static void refused(String what, Roomtalk x, int due, Supplier<Integer> call) {
        String before = State.of(x);
        same(what, due, call.get());
        same(what + ": changes nothing", true, before.equals(State.of(x)));
    }

    /** A call that throws and changes nothing. */
    static void thrown(String what, Roomtalk x, Class<? extends RuntimeException> due, Runnable call) {
        String before = State.of(x);
        fails(what, due, call);
        same(what + ": changes nothing", true, before.equals(State.of(x)));
    }

    static int wrongCount() {
        return wrong;
    }

    static void finish(String name) {
        System.out.println(name + ": " + right + " answers as due, " + wrong + " not");
        if (wrong != 0) {
            System.exit(1);
        }
    }
}
