import java.util.List;

/** Counts what is as due and prints what is not. */
final class Check {
    interface Call {
        void make();
    }

    private int right;
    private int wrong;
    private String sentence = "";

    /**
     * A test of its own for a sentence of the document: what it throws is its own
     * fault and stops no other test, and one that looks at nothing is wrong.
     */
    void test(String told, Call test) {
        sentence = "[" + told + "] ";
        int looked = right + wrong;
        try {
            test.make();
        } catch (RuntimeException e) {
            wrong++;
            System.out.println(sentence + "threw " + e);
        }
        holds("looks at something", right + wrong > looked);
        sentence = "";
    }

    void same(String what, long got, long want) {
        if (got == want) {
            right++;
        } else {
            wrong++;
            System.out.println(sentence + what + ": got " + got + ", due is " + want);
        }
    }

    /** All that can be asked of two objects is the same; the first difference is told. */
    void sameState(String what, State.Past got, State.Past want) {
        List<String> here = State.of(got);
        List<String> due = State.of(want);
        for (int i = 0; i < due.size(); i++) {
            if (!here.get(i).equals(due.get(i))) {
                wrong++;
                System.out.println(sentence + what + ": " + here.get(i) + ", due: " + due.get(i));
                return;
            }
        }
        right++;
    }

    void holds(String what, boolean got) {
        same(what, got ? 1 : 0, 1);
    }

    /** The very class is due, not one below it. */
    void refused(String what, Class<? extends RuntimeException> due, Call call) {
        Class<?> thrown = null;
        try {
            call.make();
        } catch (RuntimeException e) {
            thrown = e.getClass();
        }
        holds(what + " throws " + due.getSimpleName() + ", and threw " + thrown, thrown == due);
    }

    void noIndex(String what, Call call) {
        refused(what, IndexOutOfBoundsException.class, call);
    }

    void noArgument(String what, Call call) {
        refused(what, IllegalArgumentException.class, call);
    }

    /** Ends the test's program, with exit code 1 if something was wrong. */
    void end() {
        System.out.println(right + " answers as due, " + wrong + " not");
        if (wrong != 0 || right == 0) {
            System.exit(1);
        }
    }
}
