/** What the tests share: it counts and prints the answers that are not the ones due. */
final class Due {
    interface Call {
        long answer();
    }

    static final Class<IllegalStateException> STATE = IllegalStateException.class;
    static final Class<IllegalArgumentException> ARGUMENT = IllegalArgumentException.class;
    static final Class<IndexOutOfBoundsException> INDEX = IndexOutOfBoundsException.class;
    static final Class<UnsupportedOperationException> UNSUPPORTED = UnsupportedOperationException.class;

    private static int wrong = 0;

    private Due() {
    }

    static void is(String what, long got, long want) {
        if (got != want) {
            tell(what + " answered " + got + ", due is " + want);
        }
    }

    static void yes(String what, boolean got) {
        is(what, got ? 1 : 0, 1);
    }

    static void no(String what, boolean got) {
        is(what, got ? 1 : 0, 0);
    }

    /** The very class is asked for, and that FontShelf threw it: the machine and the library throw too. */
    static void throwing(String what, Class<? extends RuntimeException> want, Call call) {
        try {
            tell(what + " answered " + call.answer() + ", due is " + want.getSimpleName());
        } catch (RuntimeException e) {
            if (e.getClass() != want || !thrownByShelf(e)) {
                tell(what + " threw " + e + ", due is " + want.getSimpleName());
            }
        }
    }

    static boolean thrownByShelf(RuntimeException e) {
        StackTraceElement[] trace = e.getStackTrace();
        return trace.length > 0 && trace[0].getClassName().startsWith("FontShelf");
    }

    static void tell(String text) {
        wrong++;
        System.out.println(text);
    }

    static void end() {
        System.exit(wrong == 0 ? 0 : 1);
    }
}
