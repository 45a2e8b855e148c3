/** Counts what is as due and what is not; a test's main ends with end(). */
final class Check {
    interface Call {
        long answer();
    }

    private static int passed;
    private static int wrong;
    private static String begun = "";

    private Check() {
    }

    /** The name of the test that begins here stands before the faults that it finds. */
    static void begin(String name) {
        begun = name + ": ";
    }

    static void due(String what, long got, long want) {
        note(got == want, what + " answered " + got + ", due is " + want);
    }

    static void isSo(String what, boolean so) {
        note(so, what + " is not so");
    }

    /** The exception's class must be the very one that is due, not one below it, and not the machine's own. */
    static void dueThrow(String what, Class<? extends RuntimeException> want, Call call) {
        try {
            long got = call.answer();
            note(false, what + " answered " + got + ", due is " + want.getSimpleName());
        } catch (RuntimeException e) {
            note(e.getClass() == want && !isMachines(e), what + " threw " + e + ", due is " + want.getSimpleName());
        }
    }

    /** The machine's own exceptions tell an index or a length; the class's have written texts without numbers. */
    private static boolean isMachines(RuntimeException e) {
        return e.getMessage() == null || e.getMessage().matches("(?s).*[0-9].*");
    }

    static void end() {
        System.out.println(passed + " answers as due, " + wrong + " not");
        if (wrong != 0) {
            System.exit(1);
        }
    }

    private static void note(boolean good, String fault) {
        if (good) {
            passed++;
            return;
        }
        wrong++;
        if (wrong <= 50) {
            System.out.println(begun + fault);
        }
    }
}
