/** Counts what is not as it should be, and tells it. */
final class Check {
    /** A call that may throw. */
    interface Call {
        Object make();
    }

    private static int done = 0;
    private static int wrong = 0;

    private Check() {
    }

    static void same(String what, Object got, Object want) {
        done++;
        if (!got.equals(want)) {
            wrong++;
            System.out.println(what + ": got " + got + ", due is " + want);
        }
    }

    /** The call throws just this (IOB, IAE or ISE), and the bench stays as it was. */
    static void refused(GearTrains bench, String want, String what, Call call) {
        String before = look(bench);
        same(what, outcome(call), want);
        same("the bench after " + what, look(bench), before);
    }

    /** The answer as a text, or the short name of what the program throws. */
    static String outcome(Call call) {
        try {
            return String.valueOf(call.make());
        } catch (RuntimeException e) {
            return isThrownByProgram(e) ? shortName(e.getClass()) : "by the machine: " + e;
        }
    }

    /** The same for a call of something else than the program. */
    static String outcomeOfAny(Call call) {
        try {
            return String.valueOf(call.make());
        } catch (RuntimeException e) {
            return shortName(e.getClass());
        }
    }

    static String shortName(Class<?> type) {
        if (type == IndexOutOfBoundsException.class) {
            return "IOB";
        }
        if (type == IllegalArgumentException.class) {
            return "IAE";
        }
        if (type == IllegalStateException.class) {
            return "ISE";
        }
        return type.getName();
    }

    /** Ends the program, with 1 if something was wrong or nothing was looked at. */
    static void end() {
        System.out.println(done + " checks, " + wrong + " wrong");
        if (wrong != 0 || done == 0) {
            System.exit(1);
        }
    }

    // A list throws the same IndexOutOfBoundsException, but from inside the library.
    private static boolean isThrownByProgram(RuntimeException e) {
        StackTraceElement[] trace = e.getStackTrace();
        return trace.length > 0 && trace[0].getClassName().equals("GearTrains");
    }

    // Few calls: an object is good for 512 of them.
    private static String look(GearTrains bench) {
        int meshes = bench.count(2);
        return bench.digest() + " " + bench.collisions() + " " + bench.free() + " "
                + (meshes == 0 ? -1 : bench.distance(meshes - 1));
    }
}
