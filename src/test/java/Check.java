/** Counts the answers that are not due, and tells each; a refused call must change nothing that can be asked. */
final class Check {
    static final Class<? extends RuntimeException> INDEX = IndexOutOfBoundsException.class;
    static final Class<? extends RuntimeException> ARGUMENT = IllegalArgumentException.class;
    static final Class<? extends RuntimeException> STATE = IllegalStateException.class;

    private final String name;
    private int wrong = 0;
    private int looks = 0;

    Check(String name) {
        this.name = name;
    }

    void is(String what, long got, long due) {
        looks++;
        if (got != due) {
            tell(what + " answered " + got + ", due is " + due);
        }
    }

    void is(String what, boolean got, boolean due) {
        is(what, got ? 1 : 0, due ? 1 : 0);
    }

    void is(String what, String got, String due) {
        looks++;
        if (!got.equals(due)) {
            tell(what + " answered \"" + got + "\", due is \"" + due + "\"");
        }
    }

    void fails(VowCourt court, String what, Class<? extends RuntimeException> due, Runnable call) {
        looks++;
        String before = Snapshot.of(court);
        Class<?> got = null;
        try {
            call.run();
        } catch (RuntimeException e) {
            got = e.getClass();
            if (!isThrownByCourt(e)) {
                tell(what + " is answered by the machine or the library: " + e);
            }
        }
        if (got != due) {
            tell(what + " threw " + got + ", due is " + due);
        }
        if (!before.equals(Snapshot.of(court))) {
            tell(what + " was refused, but changed something");
        }
    }

    /** A list would throw IndexOutOfBoundsException too, where the court forgot to look. */
    static boolean isThrownByCourt(RuntimeException e) {
        StackTraceElement[] trace = e.getStackTrace();
        return trace.length > 0 && trace[0].getClassName().equals("VowCourt");
    }

    void tell(String message) {
        wrong++;
        System.out.println(name + ": " + message);
    }

    void finish() {
        System.out.println(name + ": " + looks + " looks, " + wrong + " wrong");
        if (wrong != 0) {
            System.exit(1);
        }
    }
}
