/** Counts the answers of one test class that are not as due, and ends it with exit code 1 if there were any. */
final class Checks {
    private int made;
    private int wrong;

    int made() {
        return made;
    }

    void equal(String what, int got, int want) {
        made++;
        if (got != want) {
            wrong++;
            System.out.println(what + ": answered " + got + ", due is " + want);
        }
    }

    void holds(String what, boolean got) {
        equal(what, got ? 1 : 0, 1);
    }

    /** The call must throw exactly this class. */
    void refused(String what, Class<? extends RuntimeException> want, Runnable call) {
        made++;
        try {
            call.run();
        } catch (RuntimeException thrown) {
            if (thrown.getClass() == want) {
                return;
            }
            wrong++;
            System.out.println(what + ": threw " + thrown + ", due is " + want.getSimpleName());
            return;
        }
        wrong++;
        System.out.println(what + ": threw nothing, due is " + want.getSimpleName());
    }

    void illegalArgument(String what, Runnable call) {
        refused(what, IllegalArgumentException.class, call);
    }

    void end() {
        System.out.println(made + " checks, " + wrong + " wrong");
        if (made == 0 || wrong != 0) {
            System.exit(1);
        }
    }
}
