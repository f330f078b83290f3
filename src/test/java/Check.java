/** Compares answers with what is due, prints each that is not, and counts them. */
final class Check {
    interface Call {
        double answer();
    }

    static final Class<? extends RuntimeException> INDEX = IndexOutOfBoundsException.class;
    static final Class<? extends RuntimeException> ARGUMENT = IllegalArgumentException.class;
    static final Class<? extends RuntimeException> STATE = IllegalStateException.class;
    /** Numbers that lie in no range of the document. */
    static final double[] NO_NUMBERS = {
        Double.NaN, Double.POSITIVE_INFINITY, Double.NEGATIVE_INFINITY, Double.MAX_VALUE, -1, -0.125
    };
    static final int[] NO_KINDS = {-1, 4, 5, Integer.MIN_VALUE, Integer.MAX_VALUE};

    private static int wrong = 0;

    private Check() {
    }

    static void due(String name, double want, Call call) {
        double got;
        try {
            got = call.answer();
        } catch (RuntimeException e) {
            say(name + " threw " + e.getClass().getName() + ", due is " + want);
            return;
        }
        if (got != want) {
            say(name + " answered " + got + ", due is " + want);
        }
    }

    /** The very class is asked for, so that the machine's own exceptions do not pass for their parents. */
    static void dueThrow(String name, Class<? extends RuntimeException> want, Call call) {
        try {
            say(name + " answered " + call.answer() + ", due is " + want.getName());
        } catch (RuntimeException e) {
            if (e.getClass() != want) {
                say(name + " threw " + e.getClass().getName() + ", due is " + want.getName());
            }
        }
    }

    static void holds(String name, boolean isSo) {
        if (!isSo) {
            say(name);
        }
    }

    /** Ends the program with exit code 1 if an answer was wrong. */
    static void end() {
        System.out.println(wrong == 0 ? "all answers are as due" : wrong + " answers are not as due");
        if (wrong != 0) {
            System.exit(1);
        }
    }

    private static void say(String text) {
        wrong++;
        if (wrong <= 100) {
            System.out.println(text);
        }
    }
}
