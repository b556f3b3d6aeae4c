/** What the tests share: due answers, due exceptions, and the exit code. */
final class Check {
    static final Class<? extends RuntimeException> INDEX = IndexOutOfBoundsException.class;
    static final Class<? extends RuntimeException> ARGUMENT = IllegalArgumentException.class;
    static final Class<? extends RuntimeException> STATE = IllegalStateException.class;

    private static int wrong = 0;
    private static int checked = 0;

    private Check() {
    }

    interface Call {
        Object answer();
    }

    static void due(String what, Object want, Call call) {
        report(what, String.valueOf(want), outcome(call));
    }

    static void refused(String what, Class<? extends RuntimeException> want, Call call) {
        report(what, nameOf(want), outcome(call));
    }

    /** The answer as a text, or the name of the exception: its exact class, so that the machine's own show. */
    static String outcome(Call call) {
        try {
            return String.valueOf(call.answer());
        } catch (RuntimeException e) {
            return nameOf(e.getClass()) + (isThrownByTheLibrary(e) ? " of the library" : "");
        }
    }

    /** A list throws the document's own IndexOutOfBoundsException if the class forgets to look at its size. */
    private static boolean isThrownByTheLibrary(RuntimeException e) {
        StackTraceElement[] frames = e.getStackTrace();
        return frames.length > 0 && frames[0].getClassName().startsWith("java.")
                || frames.length > 0 && frames[0].getClassName().startsWith("jdk.");
    }

    static String nameOf(Class<?> exception) {
        return "throws." + exception.getSimpleName();
    }

    static void report(String what, String want, String got) {
        checked++;
        if (!want.equals(got)) {
            wrong++;
            if (wrong <= 40) {
                System.out.println(what + " answered " + got + ", due is " + want);
            }
        }
    }

    static void end() {
        System.out.println(checked + " answers looked at, " + wrong + " wrong");
        if (wrong > 0) {
            System.exit(1);
        }
    }
}
