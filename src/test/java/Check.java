/** Counts answers that are not due, and ends a test with exit code 1 if there was one. */
final class Check {
    static final String INDEX = "IndexOutOfBoundsException";
    static final String ARGUMENT = "IllegalArgumentException";
    static final String STATE = "IllegalStateException";

    private static final int MOST_TOLD = 40;

    private final String name;
    private int checked = 0;
    private int wrong = 0;

    Check(String name) {
        this.name = name;
    }

    interface Call {
        long answer();
    }

    /** What a call answers, as a text; the simple name of an exception if it throws one. */
    static String outcome(Call call) {
        try {
            return Long.toString(call.answer());
        } catch (RuntimeException e) {
            return e.getClass().getSimpleName();
        }
    }

    void same(String what, String got, String due) {
        checked++;
        if (!got.equals(due)) {
            wrong++;
            if (wrong <= MOST_TOLD) {
                System.out.println(name + ": " + what + " answered " + got + ", due is " + due);
            }
        }
    }

    void due(String what, long due, Call call) {
        same(what, outcome(call), Long.toString(due));
    }

    void refused(String what, String exception, Call call) {
        same(what, outcome(call), exception);
    }

    void is(String what, boolean due, boolean got) {
        same(what, Boolean.toString(got), Boolean.toString(due));
    }

    /** A call that throws, and leaves all that can be seen of the mill as it was. */
    void refusedUnchanged(String what, String exception, AffixWorks mill, Call call) {
        String ahead = Mills.state(mill);
        refused(what, exception, call);
        same(what + ", and what is seen behind it", Mills.state(mill), ahead);
    }

    void shown(String what, AffixWorks mill, int machine, String due) {
        same(what, Mills.show(mill, machine), due);
    }

    boolean isClean() {
        return wrong == 0;
    }

    boolean hasChecked() {
        return checked != 0;
    }

    void end() {
        System.out.println(name + ": " + checked + " checks, " + wrong + " wrong");
        if (wrong != 0) {
            System.exit(1);
        }
    }
}
