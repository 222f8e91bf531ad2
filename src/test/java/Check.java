/** Counts what is not as it should be, and tells it. */
final class Check {
    /** A call that may throw. */
    interface Call {
        Object make();
    }

    private static int done = 0;
    private static int wrong = 0;

    private Check() {
    }

    static void same(String what, Object got, Object want) {
        done++;
        if (!got.equals(want)) {
            wrong++;
            System.out.println(what + ": got " + got + ", due is " + want);
        }
    }

    static void refuses(String what, String want, Call call) {
        same(what, outcome(call), want);
    }

    /** The answer as a text, or the short name of what is thrown. */
    static String outcome(Call call) {
        try {
            return String.valueOf(call.make());
        } catch (RuntimeException e) {
            return isThrownByProgram(e) ? shortName(e.getClass()) : "by the machine: " + e;
        }
    }

    // A list throws the same IndexOutOfBoundsException, but from inside the library.
    private static boolean isThrownByProgram(RuntimeException e) {
        StackTraceElement[] trace = e.getStackTrace();
        return trace.length > 0 && trace[0].getClassName().equals("GearTrains");
    }

    static String shortName(Class<?> type) {
        if (type == IndexOutOfBoundsException.class) {
            return "IOB";
        }
        if (type == IllegalArgumentException.class) {
            return "IAE";
        }
        if (type == IllegalStateException.class) {
            return "ISE";
        }
        return type.getName();
    }

    /** Ends the program, with 1 if something was wrong or nothing was looked at. */
    static void end() {
        System.out.println(done + " checks, " + wrong + " wrong");
        if (wrong != 0 || done == 0) {
            System.exit(1);
        }
    }
}
