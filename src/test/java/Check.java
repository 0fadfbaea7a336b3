/** Counts the answers that are not as due; a test's main ends by telling them. */
final class Check {
    /** A call that may throw. */
    interface Call {
        void make();
    }

    private final String test;
    private String sentence = "";
    private int checksOfSentence = 1;
    private int made;
    private int wrong;

    Check(String test) {
        this.test = test;
    }

    /** The promise's number and the document's sentence that the next checks hold it to. */
    void about(String promiseAndSentence) {
        endSentence();
        sentence = promiseAndSentence + ": ";
        checksOfSentence = 0;
    }

    void that(String what, boolean holds) {
        made++;
        checksOfSentence++;
        if (!holds) {
            tell(what);
        }
    }

    void same(String what, long due, long got) {
        that(what + " answered " + got + ", due is " + due, due == got);
    }

    /** Exactly this class, since the document names exactly one exception for each wrong call. */
    void fails(String what, Class<? extends RuntimeException> due, Call call) {
        Class<?> thrown = thrownBy(call);
        that(what + " threw " + thrown + ", due is " + due, thrown == due);
    }

    void passes(String what, Call call) {
        Class<?> thrown = thrownBy(call);
        that(what + " threw " + thrown + ", due is none", thrown == null);
    }

    /** The node's parts 0, 1, .. , as many as are given. */
    void parts(String what, EvenClock clock, int k, int... due) {
        for (int part = 0; part < due.length; part++) {
            same(what + ": node(" + k + ", " + part + ")", due[part], clock.node(k, part));
        }
    }

    /** The joins' children, left and right by turns, from the first join on. */
    void joins(String what, EvenClock clock, int... due) {
        int first = clock.sinks();
        for (int k = 0; k < due.length; k++) {
            int join = first + k / 2;
            same(what + ": node(" + join + ", " + k % 2 + ")", due[k], clock.node(join, k % 2));
        }
    }

    /** Every call that needs a tree says so, and says it first, whatever it is asked for. */
    void noTree(String what, EvenClock clock) {
        for (int number : new int[] {0, 1, -1, 19, Integer.MIN_VALUE, Integer.MAX_VALUE}) {
            String of = "(" + number + ")";
            fails(what + ": node" + of, Due.STATE, () -> clock.node(number, 0));
            fails(what + ": node of part " + of, Due.STATE, () -> clock.node(0, number));
            fails(what + ": depth" + of, Due.STATE, () -> clock.depth(number));
            fails(what + ": set on" + of, Due.STATE, () -> clock.set(number, true));
            fails(what + ": set off" + of, Due.STATE, () -> clock.set(number, false));
            fails(what + ": load shown" + of, Due.STATE, () -> clock.load(number, true));
            fails(what + ": load borne" + of, Due.STATE, () -> clock.load(number, false));
            fails(what + ": delay" + of, Due.STATE, () -> clock.delay(number));
        }
        fails(what + ": length", Due.STATE, () -> clock.length());
        fails(what + ": setting", Due.STATE, () -> clock.setting());
        fails(what + ": slack", Due.STATE, () -> clock.slack());
        fails(what + ": best", Due.STATE, () -> clock.best());
        fails(what + ": improve", Due.STATE, () -> clock.improve());
    }

    void end() {
        endSentence();
        System.out.println(test + ": " + made + " checks, " + wrong + " wrong");
        if (wrong != 0) {
            System.exit(1);
        }
    }

    private static Class<?> thrownBy(Call call) {
        try {
            call.make();
        } catch (RuntimeException e) {
            return e.getClass();
        }
        return null;
    }

    private void endSentence() {
        if (checksOfSentence == 0) {
            tell("no check was made");
        }
    }

    private void tell(String what) {
        wrong++;
        System.out.println(test + ": " + sentence + what);
    }
}
