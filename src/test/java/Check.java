/** Counts what is not as it should be, and tells it. */
final class Check {
    /** A call that may throw. */
    interface Call {
        Object make();
    }

    /** A call of a bench. */
    interface Act {
        Object on(GearTrains bench);
    }

    /** Makes a bench, each time the same one. */
    interface Make {
        GearTrains bench();
    }

    private static int done = 0;
    private static int wrong = 0;
    private static int doneBefore = 0;
    private static int sentences = 0;
    private static String sentence = "";

    private Check() {
    }

    /** The next checks are of this sentence of the document; there must be some. */
    static void says(String words) {
        closeSentence();
        sentences++;
        sentence = words + ": ";
    }

    static void same(String what, Object got, Object want) {
        done++;
        if (!got.equals(want)) {
            wrong++;
            System.out.println(sentence + what + ": got " + got + ", due is " + want);
        }
    }

    /** A new bench takes the call, with this answer. */
    static void taken(Make make, Object want, String what, Act act) {
        GearTrains bench = make.bench();
        same(what, outcome(() -> act.on(bench)), String.valueOf(want));
    }

    /** A new bench throws just this (IOB, IAE or ISE), and stays like one that was not called. */
    static void refused(Make make, String want, String what, Act act) {
        GearTrains bench = make.bench();
        same(what, outcome(() -> act.on(bench)), want);
        same("the bench after " + what, Look.whole(bench), Look.whole(make.bench()));
    }

    /** The call throws just this (IOB, IAE or ISE), and the bench stays as it was. */
    static void refused(GearTrains bench, String want, String what, Call call) {
        String before = look(bench);
        same(what, outcome(call), want);
        same("the bench after " + what, look(bench), before);
    }

    /** The answer as a text, or the short name of what the program throws. */
    static String outcome(Call call) {
        try {
            return String.valueOf(call.make());
        } catch (RuntimeException e) {
            return isThrownByProgram(e) ? shortName(e.getClass()) : "by the machine: " + e;
        }
    }

    /** The same for a call of something else than the program. */
    static String outcomeOfAny(Call call) {
        try {
            return String.valueOf(call.make());
        } catch (RuntimeException e) {
            return shortName(e.getClass());
        }
    }

    static String shortName(Class<?> type) {
        if (type == IndexOutOfBoundsException.class) {
            return "IOB";
        }
        if (type == IllegalArgumentException.class) {
            return "IAE";
        }
        if (type == IllegalStateException.class) {
            return "ISE";
        }
        return type.getName();
    }

    /** Ends the program, with 1 if something was wrong or nothing was looked at. */
    static void end() {
        closeSentence();
        String of = sentences == 0 ? "" : " of " + sentences + " sentences";
        System.out.println(done + " checks" + of + ", " + wrong + " wrong");
        if (wrong != 0 || done == 0) {
            System.exit(1);
        }
    }

    private static void closeSentence() {
        if (sentences > 0 && done == doneBefore) {
            wrong++;
            System.out.println(sentence + "nothing was looked at");
        }
        doneBefore = done;
    }

    // A list throws the same IndexOutOfBoundsException, but from inside the library.
    private static boolean isThrownByProgram(RuntimeException e) {
        StackTraceElement[] trace = e.getStackTrace();
        return trace.length > 0 && trace[0].getClassName().equals("GearTrains");
    }

    // Few calls: an object is good for 512 of them.
    private static String look(GearTrains bench) {
        int meshes = bench.count(2);
        return bench.digest() + " " + bench.collisions() + " " + bench.free() + " "
                + (meshes == 0 ? -1 : bench.distance(meshes - 1));
    }
}
