import java.util.NoSuchElementException;

/** Counts what was right and wrong in one test class. */
final class Checks {
    /** A call whose answer or exception is looked at. */
    interface Asked {
        Object answer();
    }

    static final Class<IndexOutOfBoundsException> INDEX = IndexOutOfBoundsException.class;
    static final Class<IllegalArgumentException> ARGUMENT = IllegalArgumentException.class;
    static final Class<UnsupportedOperationException> UNSUPPORTED = UnsupportedOperationException.class;
    static final Class<IllegalStateException> STATE = IllegalStateException.class;
    static final Class<NoSuchElementException> MISSING = NoSuchElementException.class;

    private final String name;
    private int passed;
    private int failed;

    Checks(String name) {
        this.name = name;
    }

    void same(String what, Object want, Object got) {
        if (want.equals(got)) {
            passed++;
        } else {
            failed++;
            System.out.println(name + ": " + what + " is " + got + ", due is " + want);
        }
    }

    void refuses(String what, Class<? extends RuntimeException> want, Asked asked) {
        String got;
        try {
            got = "the answer " + asked.answer();
        } catch (RuntimeException e) {
            got = thrown(e);
        }
        same(what, want.getName(), got);
    }

    /** The exception's name; an exception that the class did not throw itself is never the one that is due. */
    static String thrown(Throwable e) {
        StackTraceElement[] trace = e.getStackTrace();
        String thrower = trace.length > 0 ? trace[0].getClassName() : "";
        boolean isOwn = thrower.equals("MouthpieceRow") || thrower.startsWith("MouthpieceRow$");
        return isOwn ? e.getClass().getName() : "the machine's " + e;
    }

    void end() {
        System.out.println(name + ": " + passed + " passed, " + failed + " failed");
        if (failed > 0 || passed == 0) {
            System.exit(1);
        }
    }
}
