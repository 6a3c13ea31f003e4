/** Counts the answers that are not as due; a test ends with exit code 1 if there was one. */
final class Checks {
    /** A call that may throw. */
    interface Call {
        long answer() throws Exception;
    }

    private static final int SHOWN = 40;
    private int asDue;
    private int wrong;

    void due(String what, long got, long want) {
        if (got == want) {
            asDue++;
            return;
        }
        wrong++;
        if (wrong <= SHOWN) {
            System.out.println(what + " answered " + got + " (" + Long.toHexString(got) + "), due is " + want
                + " (" + Long.toHexString(want) + ")");
        }
    }

    void dueThrow(String what, Class<? extends Exception> want, Call call) {
        Class<?> got = null;
        try {
            call.answer();
        } catch (Exception e) {
            got = e.getClass();
        }
        if (got == want) {
            asDue++;
            return;
        }
        wrong++;
        System.out.println(what + " threw " + got + ", due is " + want);
    }

    void end() {
        System.out.println(asDue + " answers as due, " + wrong + " wrong");
        if (wrong != 0 || asDue == 0) System.exit(1);
    }
}
