/** What the tests share: it counts and prints the answers that are not the ones due. */
final class Due {
    interface Call {
        long answer();
    }

    static final Class<IllegalStateException> STATE = IllegalStateException.class;
    static final Class<IllegalArgumentException> ARGUMENT = IllegalArgumentException.class;
    static final Class<IndexOutOfBoundsException> INDEX = IndexOutOfBoundsException.class;
    static final Class<UnsupportedOperationException> UNSUPPORTED = UnsupportedOperationException.class;

    private static final int MOST_PRINTED = 40;

    private static int wrong = 0;
    private static String sentence = "";

    private Due() {
    }

    /** A test of one sentence of the document, whose words are told with each wrong answer. */
    static void sentence(String words, Runnable test) {
        sentence = "\"" + words + "\": ";
        try {
            test.run();
        } catch (RuntimeException e) {
            tell("the test ended with " + e);
        }
        sentence = "";
    }

    static void is(String what, long got, long want) {
        if (got != want) {
            tell(what + " answered " + got + ", due is " + want);
        }
    }

    static void yes(String what, boolean got) {
        is(what, got ? 1 : 0, 1);
    }

    static void no(String what, boolean got) {
        is(what, got ? 1 : 0, 0);
    }

    /** The very class is asked for, and that FontShelf threw it: the machine and the library throw too. */
    static void throwing(String what, Class<? extends RuntimeException> want, Call call) {
        String got = outcome(call);
        if (!got.equals(want.getName())) {
            tell(what + " answered " + got + ", due is " + want.getSimpleName());
        }
    }

    /** The answer, or the name of the exception; one that FontShelf did not throw itself never equals that name. */
    static String outcome(Call call) {
        try {
            return Long.toString(call.answer());
        } catch (RuntimeException e) {
            return e.getClass().getName() + (thrownByShelf(e) ? "" : " not by a throw of FontShelf's own");
        }
    }

    private static boolean thrownByShelf(RuntimeException e) {
        StackTraceElement[] trace = e.getStackTrace();
        return trace.length > 0 && trace[0].getClassName().startsWith("FontShelf");
    }

    static void tell(String text) {
        wrong++;
        if (wrong <= MOST_PRINTED) {
            System.out.println(sentence + text);
        }
    }

    static void end() {
        if (wrong > MOST_PRINTED) {
            System.out.println((wrong - MOST_PRINTED) + " wrong answers more");
        }
        System.exit(wrong == 0 ? 0 : 1);
    }
}
