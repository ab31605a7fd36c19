import java.util.concurrent.Callable;

/** What the tests of the project share: they count answers that are not as due and end with them. */
final class Checks {
    static final Class<?> INDEX = IndexOutOfBoundsException.class;
    static final Class<?> ARGUMENT = IllegalArgumentException.class;

    private static int wrong = 0;

    private Checks() {
    }

    static void due(String call, Object want, Object got) {
        if (!want.equals(got)) {
            wrong++;
            System.out.println(call + " answered " + got + ", due is " + want);
        }
    }

    /** What a call answers, or the very class of what it throws (a class below the due one is not due). */
    static Object answer(Callable<Object> call) {
        try {
            return call.call();
        } catch (Exception thrown) {
            return thrown.getClass();
        }
    }

    static void end(String test) {
        System.out.println(test + ": " + (wrong == 0 ? "all answers are as due" : wrong + " answers are not as due"));
        if (wrong != 0) {
            System.exit(1);
        }
    }
}
