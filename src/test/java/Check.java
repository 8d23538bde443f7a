/** Counts and prints what is not as due; each test ends with end(). */
final class Check {
    private static int wrong = 0;
    private static String test = "";

    private Check() {
    }

    interface Call {
        void run();
    }

    /** What fails from now on belongs to this test. */
    static void begin(String name) {
        test = name + ": ";
    }

    static void same(String what, long got, long due) {
        if (got != due) {
            fail(what + " answered " + got + ", due is " + due);
        }
    }

    static void illegalArgument(String what, Call call) {
        refused(what, IllegalArgumentException.class, call);
    }

    static void illegalState(String what, Call call) {
        refused(what, IllegalStateException.class, call);
    }

    static void outOfBounds(String what, Call call) {
        refused(what, IndexOutOfBoundsException.class, call);
    }

    static void fail(String line) {
        wrong++;
        System.out.println(test + line);
    }

    static void end() {
        System.out.println(wrong == 0 ? "as due" : wrong + " not as due");
        if (wrong != 0) {
            System.exit(1);
        }
    }

    private static void refused(String what, Class<? extends RuntimeException> due, Call call) {
        try {
            call.run();
        } catch (RuntimeException e) {
            if (e.getClass() != due) {
                fail(what + " threw " + e.getClass().getName() + ", due is " + due.getName());
            }
            return;
        }
        fail(what + " threw nothing, due is " + due.getName());
    }
}
