import java.util.Objects;

/** Counts what is checked, and prints each answer that is not the one that is due. */
final class Checks {
    interface Call {
        Object run();
    }

    private int made;
    private int wrong;

    void is(String what, Object due, Call call) {
        made++;
        Object got = answer(call);
        if (!Objects.equals(due, got)) {
            wrong++;
            System.out.println(what + ": answered " + got + ", due is " + due);
        }
    }

    void refuses(String what, Class<? extends RuntimeException> due, Call call) {
        is(what, "throws " + due.getSimpleName(), call);
    }

    /** The answer of a call, or the name of what it throws. */
    static Object answer(Call call) {
        try {
            return call.run();
        } catch (RuntimeException e) {
            return "throws " + e.getClass().getSimpleName();
        }
    }

    int wrong() {
        return wrong;
    }

    void end(String name) {
        System.out.println(name + ": " + made + " checks, " + wrong + " wrong");
        if (wrong != 0 || made == 0) {
            System.exit(1);
        }
    }
}
