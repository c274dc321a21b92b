/** Counts answers that are not as due; a test ends by finish(). */
final class Check {
    /** A call that is to be refused. */
    interface Call {
        void run();
    }

    private final String name;
    private int wrong = 0;

    Check(String name) {
        this.name = name;
    }

    void same(String what, long got, long due) {
        if (got != due) {
            wrong++;
            System.out.println(name + ": " + what + " answered " + got + ", due is " + due);
        }
    }

    void holds(String what, boolean right) {
        if (!right) {
            wrong++;
            System.out.println(name + ": " + what + " does not hold");
        }
    }

    void refuses(Class<? extends RuntimeException> due, String what, Call call) {
        Class<?> got = null;
        try {
            call.run();
        } catch (RuntimeException thrown) {
            got = thrown.getClass();
        }
        if (got != due) {
            wrong++;
            System.out.println(name + ": " + what + " threw " + got + ", due is " + due);
        }
    }

    void noSuch(String what, Call call) {
        refuses(IndexOutOfBoundsException.class, what, call);
    }

    void notAsSaid(String what, Call call) {
        refuses(IllegalArgumentException.class, what, call);
    }

    void notNow(String what, Call call) {
        refuses(IllegalStateException.class, what, call);
    }

    void finish() {
        System.out.println(name + ": " + (wrong == 0 ? "all as due" : wrong + " not as due"));
        if (wrong != 0) {
            System.exit(1);
        }
    }
}
