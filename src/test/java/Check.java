/** Counts what is as due and prints what is not. */
final class Check {
    interface Call {
        void make();
    }

    private int right;
    private int wrong;

    void same(String what, long got, long want) {
        if (got == want) {
            right++;
        } else {
            wrong++;
            System.out.println(what + ": got " + got + ", due is " + want);
        }
    }

    void holds(String what, boolean got) {
        same(what, got ? 1 : 0, 1);
    }

    /** The very class is due, not one below it. */
    void refused(String what, Class<? extends RuntimeException> due, Call call) {
        Class<?> thrown = null;
        try {
            call.make();
        } catch (RuntimeException e) {
            thrown = e.getClass();
        }
        holds(what + " throws " + due.getSimpleName() + ", and threw " + thrown, thrown == due);
    }

    void noIndex(String what, Call call) {
        refused(what, IndexOutOfBoundsException.class, call);
    }

    void noArgument(String what, Call call) {
        refused(what, IllegalArgumentException.class, call);
    }

    /** Ends the test's program, with exit code 1 if something was wrong. */
    void end() {
        System.out.println(right + " answers as due, " + wrong + " not");
        if (wrong != 0 || right == 0) {
            System.exit(1);
        }
    }
}
