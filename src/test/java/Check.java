import java.io.IOException;
import java.io.UncheckedIOException;
import java.nio.file.Files;
import java.nio.file.Path;
import java.util.ArrayList;
import java.util.List;

/** Runs the project's tests, counts them, and tells what each one found. */
final class Check {
    interface Body {
        void run();
    }

    interface LetterCall {
        void of(char letter);
    }

    interface NumberCall {
        void of(int number);
    }

    private static final char[] NO_LETTERS = {'`', 'k', 'A', ' ', (char) 0, (char) 255, (char) 65535};

    private static final List<String> NAMES = new ArrayList<>();
    private static int passed;
    private static int failed;
    private static String faults = "";

    private Check() {
    }

    /** One test: all that its body finds wrong is one failure. */
    static void test(String name, Body body) {
        NAMES.add(name);
        faults = "";
        try {
            body.run();
        } catch (RuntimeException | Error e) {
            fault("ended with " + e);
        }
        if (faults.isEmpty()) {
            passed++;
        } else {
            failed++;
            System.out.println("FAILED " + name + faults);
        }
    }

    /** The names of the tests that were run so far. */
    static List<String> names() {
        return List.copyOf(NAMES);
    }

    static void same(String what, long want, long got) {
        if (want != got) {
            fault(what + ": due is " + want + ", answered " + got);
        }
    }

    static void sign(String what, char want, char got) {
        if (want != got) {
            fault(what + ": due is '" + want + "', answered '" + got + "'");
        }
    }

    static void text(String what, String want, String got) {
        if (!want.equals(got)) {
            fault(what + ": due is '" + want + "', answered '" + got + "'");
        }
    }

    static void number(String what, double want, double got) {
        if (want != got) {
            fault(what + ": due is " + want + ", answered " + got);
        }
    }

    static void yes(String what, boolean got) {
        if (!got) {
            fault(what + ": due is true");
        }
    }

    static void no(String what, boolean got) {
        if (got) {
            fault(what + ": due is false");
        }
    }

    /**
     * The call must throw just this class, and by a throw of the shop's own: neither the machine nor the library may.
     * Nothing that the shop holds may be another one behind it.
     */
    static void refused(HotMetalShop shop, String what, Class<? extends RuntimeException> kind, Body call) {
        String before = Inside.state(shop);
        try {
            call.run();
            fault(what + ": due is " + kind.getSimpleName() + ", nothing thrown");
        } catch (RuntimeException e) {
            if (e.getClass() != kind) {
                fault(what + ": due is " + kind.getSimpleName() + ", thrown " + e);
            }
            if (!isThrownIn(HotMetalShop.class, e)) {
                fault(what + ": thrown outside the shop's own code: " + e);
            }
        }
        if (!before.equals(Inside.state(shop))) {
            fault(what + ": was refused, but has changed the shop");
        }
    }

    /** Each sign that is no letter must be refused, those next to 'a' and 'j' among them. */
    static void noLetters(HotMetalShop shop, LetterCall call) {
        for (char wrong : NO_LETTERS) {
            refused(shop, "letter " + (int) wrong, IllegalArgumentException.class, () -> call.of(wrong));
        }
    }

    static void noNumbers(HotMetalShop shop, Class<? extends RuntimeException> kind, NumberCall call, int... wrongs) {
        for (int wrong : wrongs) {
            refused(shop, "number " + wrong, kind, () -> call.of(wrong));
        }
        refused(shop, "the greatest number", kind, () -> call.of(Integer.MAX_VALUE));
        refused(shop, "the least number", kind, () -> call.of(Integer.MIN_VALUE));
    }

    static boolean isThrownIn(Class<?> program, RuntimeException e) {
        StackTraceElement[] calls = e.getStackTrace();
        return calls.length == 0 || calls[0].getClassName().equals(program.getName());
    }

    static String read(String file) {
        try {
            return Files.readString(Path.of(file));
        } catch (IOException e) {
            throw new UncheckedIOException(e);
        }
    }

    static void fault(String text) {
        faults += "\n    " + text;
    }

    /** Tells how many tests passed; ends the machine with 1 if one failed. */
    static void end() {
        System.out.println(passed + " passed, " + failed + " failed");
        if (failed > 0) {
            System.exit(1);
        }
    }
}
