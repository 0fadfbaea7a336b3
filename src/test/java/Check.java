/** Counts the answers that are not as due; a test's main ends by telling them. */
final class Check {
    /** A call that may throw. */
    interface Call {
        void make();
    }

    private final String test;
    private int made;
    private int wrong;

    Check(String test) {
        this.test = test;
    }

    void that(String what, boolean holds) {
        made++;
        if (!holds) {
            wrong++;
            System.out.println(test + ": " + what);
        }
    }

    void same(String what, long due, long got) {
        that(what + " answered " + got + ", due is " + due, due == got);
    }

    /** Exactly this class, since the document names exactly one exception for each wrong call. */
    void fails(String what, Class<? extends RuntimeException> due, Call call) {
        Class<?> thrown = null;
        try {
            call.make();
        } catch (RuntimeException e) {
            thrown = e.getClass();
        }
        that(what + " threw " + thrown + ", due is " + due, thrown == due);
    }

    void end() {
        System.out.println(test + ": " + made + " checks, " + wrong + " wrong");
        if (wrong != 0) {
            System.exit(1);
        }
    }
}
