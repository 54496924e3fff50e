/** Counts and prints the answers that are not the ones that are due. */
final class Check {

    interface Call {
        void make();
    }

    private final String name;
    private int checks = 0;
    private int wrong = 0;

    Check(String name) {
        this.name = name;
    }

    void same(String what, long due, long got) {
        checks++;
        if (due != got) {
            tell(what + " answered " + got + ", due is " + due);
        }
    }

    void same(String what, double due, double got) {
        checks++;
        if (due != got) {
            tell(what + " answered " + got + ", due is " + due);
        }
    }

    void same(String what, String due, String got) {
        checks++;
        if (!due.equals(got)) {
            tell(what + " answered " + got + ", due is " + due);
        }
    }

    void yes(String what, boolean got) {
        checks++;
        if (!got) {
            tell(what + " answered false, due is true");
        }
    }

    void no(String what, boolean got) {
        checks++;
        if (got) {
            tell(what + " answered true, due is false");
        }
    }

    /** The call must throw exactly this exception and change nothing. */
    void fails(String what, SpeedTurns x, Class<? extends RuntimeException> due, Call call) {
        checks++;
        long before = x.digest();
        Class<?> got = null;
        try {
            call.make();
        } catch (RuntimeException e) {
            got = e.getClass();
        }
        if (got != due) {
            tell(what + " threw " + got + ", due is " + due);
        }
        if (x.digest() != before) {
            tell(what + " changed the state though it threw");
        }
    }

    private void tell(String text) {
        wrong++;
        if (wrong <= 40) {
            System.out.println(name + ": " + text);
        }
    }

    /** Ends the test's program with exit code 1 if an answer was wrong. */
    void finish() {
        System.out.println(name + ": " + checks + " checks, " + wrong + " wrong");
        if (wrong != 0) {
            System.exit(1);
        }
    }
}
