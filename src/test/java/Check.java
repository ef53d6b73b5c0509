import java.util.function.Supplier;

/** Counts the answers that are not as due; an exception is an answer, told by its name. */
final class Check {
    static final String NO_FOLD = "throws.IndexOutOfBoundsException";
    static final String BAD_ARGUMENT = "throws.IllegalArgumentException";

    private static int calls = 0;
    private static int wrong = 0;

    private Check() {
    }

    static String answer(Supplier<Object> call) {
        try {
            return String.valueOf(call.get());
        } catch (RuntimeException e) {
            // The exact class: a machine's ArrayIndexOutOfBoundsException is not as due.
            return "throws." + e.getClass().getSimpleName();
        }
    }

    static void due(Object want, String what, Supplier<Object> call) {
        calls++;
        String got = answer(call);
        if (!got.equals(String.valueOf(want))) {
            wrong++;
            System.out.println(what + " answered " + got + ", due is " + want);
        }
    }

    static boolean anyWrong() {
        return wrong != 0;
    }

    static void end() {
        System.out.println(calls + " answers, " + wrong + " not as due");
        if (wrong != 0) {
            System.exit(1);
        }
    }
}
