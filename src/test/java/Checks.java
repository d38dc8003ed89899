import java.util.Objects;

/** Counts what is checked, and prints each answer that is not the one that is due. */
final class Checks {
    interface Call {
        Object run();
    }

    private int made;
    private int wrong;

    void is(String what, Object due, Call call) {
        made++;
        Object got = answer(call);
        if (!Objects.equals(due, got)) {
            wrong++;
            System.out.println(what + ": answered " + got + ", due is " + due);
        }
    }

    void refuses(String what, Class<? extends RuntimeException> due, Call call) {
        is(what, "throws " + due.getSimpleName(), call);
    }

    /** The answer of a call, or the name of what it throws, and whether the class left that to the machine. */
    static Object answer(Call call) {
        try {
            return call.run();
        } catch (RuntimeException e) {
            return "throws " + e.getClass().getSimpleName() + (isByTheMachine(e) ? " by the machine" : "");
        }
    }

    /** The class must test what it uses, and throw by a throw of its own, that of a list's get or a division not being one. */
    private static boolean isByTheMachine(RuntimeException e) {
        StackTraceElement[] trace = e.getStackTrace();
        if (trace.length == 0 || "/ by zero".equals(e.getMessage())) {
            return true;
        }
        for (StackTraceElement call : trace) {
            if (!call.getClassName().startsWith("java.") && !call.getClassName().startsWith("jdk.")) {
                return call.getClassName().startsWith("Patiencearchive") && call != trace[0];
            }
        }
        return true;
    }

    int wrong() {
        return wrong;
    }

    void end(String name) {
        System.out.println(name + ": " + made + " checks, " + wrong + " wrong");
        if (wrong != 0 || made == 0) {
            System.exit(1);
        }
    }
}
