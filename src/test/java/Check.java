import java.util.concurrent.Callable;

/** Compares answers with those that are due, and counts those that are not. */
final class Check {
    private static int wrong = 0;
    private static String about = "";

    private Check() {
    }

    /** What the next answers are about; it is told in front of each that is not as due. */
    static void about(String what) {
        about = what + ", ";
    }

    /** The answer of a call as a text, or the name of the exception's class. */
    static String answer(Callable<?> call) {
        try {
            return String.valueOf(call.call());
        } catch (Exception thrown) {
            return thrown.getClass().getSimpleName();
        }
    }

    static void due(String what, Object want, Callable<?> call) {
        same(what, String.valueOf(want), answer(call));
    }

    static void same(String what, String want, String got) {
        if (!want.equals(got)) {
            wrong++;
            System.out.println(about + what + ": answered " + got + ", due is " + want);
        }
    }

    static int wrong() {
        return wrong;
    }

    static void finish() {
        if (wrong != 0) {
            System.out.println(wrong + " answers are not as due");
            System.exit(1);
        }
    }
}
