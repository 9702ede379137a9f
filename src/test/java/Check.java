/** Runs the project's tests, counts them, and tells what each one found. */
final class Check {
    interface Body {
        void run();
    }

    private static int passed;
    private static int failed;
    private static String faults = "";

    private Check() {
    }

    /** One test: all that its body finds wrong is one failure. */
    static void test(String name, Body body) {
        faults = "";
        try {
            body.run();
        } catch (RuntimeException | Error e) {
            fault("ended with " + e);
        }
        if (faults.isEmpty()) {
            passed++;
        } else {
            failed++;
            System.out.println("FAILED " + name + faults);
        }
    }

    static void same(String what, long want, long got) {
        if (want != got) {
            fault(what + ": due is " + want + ", answered " + got);
        }
    }

    static void sign(String what, char want, char got) {
        if (want != got) {
            fault(what + ": due is '" + want + "', answered '" + got + "'");
        }
    }

    static void text(String what, String want, String got) {
        if (!want.equals(got)) {
            fault(what + ": due is '" + want + "', answered '" + got + "'");
        }
    }

    static void number(String what, double want, double got) {
        if (want != got) {
            fault(what + ": due is " + want + ", answered " + got);
        }
    }

    static void yes(String what, boolean got) {
        if (!got) {
            fault(what + ": due is true");
        }
    }

    static void no(String what, boolean got) {
        if (got) {
            fault(what + ": due is false");
        }
    }

    /** The call must throw just this class, and by a throw of the shop's own: neither the machine nor the library may. */
    static void refused(String what, Class<? extends RuntimeException> kind, Body call) {
        try {
            call.run();
        } catch (RuntimeException e) {
            if (e.getClass() != kind) {
                fault(what + ": due is " + kind.getSimpleName() + ", thrown " + e);
            }
            if (!isThrownIn(HotMetalShop.class, e)) {
                fault(what + ": thrown outside the shop's own code: " + e);
            }
            return;
        }
        fault(what + ": due is " + kind.getSimpleName() + ", nothing thrown");
    }

    static boolean isThrownIn(Class<?> program, RuntimeException e) {
        StackTraceElement[] calls = e.getStackTrace();
        return calls.length == 0 || calls[0].getClassName().equals(program.getName());
    }

    static void fault(String text) {
        faults += "\n    " + text;
    }

    /** Tells how many tests passed; ends the machine with 1 if one failed. */
    static void end() {
        System.out.println(passed + " passed, " + failed + " failed");
        if (failed > 0) {
            System.exit(1);
        }
    }
}
