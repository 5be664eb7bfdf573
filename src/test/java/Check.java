/** Counts the answers that are not the ones that are due, and tells each of them. */
final class Check {
    interface Call {
        long answer();
    }

    private final String test;
    private int looks;
    private int wrong;

    Check(String test) {
        this.test = test;
    }

    void due(String what, long got, long want) {
        looks++;
        if (got != want) {
            tell(what + " answered " + got + ", due is " + want);
        }
    }

    void due(String what, boolean holds) {
        looks++;
        if (!holds) {
            tell(what + " does not hold");
        }
    }

    /** A call must throw just this exception, and leave the loom as it was. */
    void dueThrow(String what, WireLoom loom, Class<? extends RuntimeException> kind, Call call) {
        looks++;
        long before = loom.digest();
        try {
            long got = call.answer();
            tell(what + " answered " + got + ", due is " + kind.getSimpleName());
        } catch (RuntimeException e) {
            if (e.getClass() != kind) {
                tell(what + " threw " + e.getClass().getSimpleName() + ", due is " + kind.getSimpleName());
            }
        }
        if (loom.digest() != before) {
            tell(what + " threw, but changed something");
        }
    }

    private void tell(String text) {
        wrong++;
        if (wrong <= 40) {
            System.out.println(test + ": " + text);
        }
    }

    boolean failed() {
        return wrong > 0;
    }

    void end() {
        System.out.println(test + ": " + looks + " looks, " + wrong + " not as due");
        if (failed()) {
            System.exit(1);
        }
    }
}
