/** Counts the answers that are not as due, and ends the program with exit code 1 if there is one. */
final class Check {
    private static final int MOST_PRINTED = 20;

    interface Call {
        int run();
    }

    private final String name;
    private int asked = 0;
    private int wrong = 0;

    Check(String name) {
        this.name = name;
    }

    void same(String what, long got, long want) {
        asked++;
        if (got != want) {
            tell(what + " answered " + got + ", due is " + want);
        }
    }

    void is(String what, boolean holds) {
        asked++;
        if (!holds) {
            tell(what + " does not hold");
        }
    }

    void gives(String what, int due, Call call) {
        outcomeIs(what, String.valueOf(due), call);
    }

    void outcomeIs(String what, String due, Call call) {
        asked++;
        String got = outcome(call);
        if (!got.equals(due)) {
            tell(what + " gave " + got + ", due is " + due);
        }
    }

    void refuses(String what, Class<? extends RuntimeException> due, Call call) {
        outcomeIs(what, due.getSimpleName(), call);
    }

    /** What the call answers, or the name of what it throws. */
    static String outcome(Call call) {
        try {
            return String.valueOf(call.run());
        } catch (RuntimeException e) {
            return e.getClass().getSimpleName();
        }
    }

    void end() {
        System.out.println(name + ": " + asked + " answers asked, " + wrong + " wrong");
        if (wrong != 0) {
            System.exit(1);
        }
    }

    private void tell(String text) {
        wrong++;
        if (wrong <= MOST_PRINTED) {
            System.out.println(name + ": " + text);
        }
    }
}
