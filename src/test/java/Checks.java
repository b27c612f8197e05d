/** Counts the answers of one test that are not as due. */
final class Checks {
    interface Call {
        long run();
    }

    private final String test;
    private int made;
    private int wrong;

    Checks(String test) {
        this.test = test;
    }

    void same(String what, long got, long due) {
        made++;
        if (got != due) {
            report(what + " answered " + got + ", due is " + due);
        }
    }

    void yes(String what, boolean got) {
        same(what, got ? 1 : 0, 1);
    }

    void no(String what, boolean got) {
        same(what, got ? 1 : 0, 0);
    }

    void noSuch(String what, Call call) {
        throwing(what, IndexOutOfBoundsException.class, call);
    }

    void outOfRange(String what, Call call) {
        throwing(what, IllegalArgumentException.class, call);
    }

    void notNow(String what, Call call) {
        throwing(what, IllegalStateException.class, call);
    }

    /** What a call answers, or the name of what it throws. */
    static String outcome(Call call) {
        try {
            return Long.toString(call.run());
        } catch (RuntimeException thrown) {
            return thrown.getClass().getSimpleName();
        }
    }

    void same(String what, String got, String due) {
        made++;
        if (!got.equals(due)) {
            report(what + " answered " + got + ", due is " + due);
        }
    }

    /** The class itself, not one below it: what the machine throws is often below what the document names. */
    private void throwing(String what, Class<? extends RuntimeException> due, Call call) {
        made++;
        try {
            report(what + " answered " + call.run() + ", due is " + due.getSimpleName());
        } catch (RuntimeException thrown) {
            if (thrown.getClass() != due) {
                report(what + " threw " + thrown + ", due is " + due.getSimpleName());
            }
        }
    }

    private void report(String text) {
        wrong++;
        System.out.println(test + ": " + text);
    }

    void finish() {
        System.out.println(test + ": " + made + " checks, " + wrong + " wrong");
        if (wrong != 0 || made == 0) {
            System.exit(1);
        }
    }
}
