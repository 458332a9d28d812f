/** Counts the answers of one test that are not the ones due, and prints each of them. */
final class Check {
    /** A call that is expected to throw. */
    interface Call {
        void make();
    }

    private static int checked;
    private static int wrong;

    private Check() {
    }

    static void equal(String what, long got, long due) {
        checked++;
        if (got != due) {
            tell(what + " answered " + got + ", due is " + due);
        }
    }

    static void same(String what, String got, String due) {
        checked++;
        if (!got.equals(due)) {
            tell(what + " answered " + got + ", due is " + due);
        }
    }

    static void holds(String what, boolean held) {
        checked++;
        if (!held) {
            tell(what + " does not hold");
        }
    }

    /** The class must be the very one that is due: a machine's own exception is often a subclass. */
    static void fails(String what, Class<? extends RuntimeException> due, Call call) {
        checked++;
        try {
            call.make();
        } catch (RuntimeException e) {
            if (e.getClass() != due) {
                tell(what + " threw " + e.getClass().getName() + ", due is " + due.getName());
            }
            return;
        }
        tell(what + " threw nothing, due is " + due.getName());
    }

    /** Ends the test: exit code 1 if an answer was wrong, or if nothing was checked at all. */
    static void end() {
        System.out.println(checked + " checked, " + wrong + " wrong");
        if (wrong != 0 || checked == 0) {
            System.exit(1);
        }
    }

    private static void tell(String text) {
        wrong++;
        System.out.println(text);
    }
}
