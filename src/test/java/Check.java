/** What the tests share: they note each wrong answer, and end with exit code 1 if there was one. */
final class Check {
    static final Class<IndexOutOfBoundsException> INDEX = IndexOutOfBoundsException.class;
    static final Class<IllegalArgumentException> ARGUMENT = IllegalArgumentException.class;
    static final Class<IllegalStateException> STATE = IllegalStateException.class;

    private static int wrong = 0;

    private Check() {
    }

    static void due(String call, long got, long want) {
        if (got != want) {
            note(call + " answered " + got + ", due is " + want);
        }
    }

    static void due(String call, double got, double want) {
        if (got != want) {
            note(call + " answered " + got + ", due is " + want);
        }
    }

    /** The call must throw exactly this, and leave the loft as it was. */
    static void fails(String call, Class<? extends RuntimeException> want, HerbLoft loft, Runnable run) {
        long before = loft.digest();
        String fault = "threw nothing, due is " + want;
        try {
            run.run();
        } catch (RuntimeException e) {
            fault = faultOf(e, want);
        }
        if (fault != null) {
            note(call + " " + fault);
        }
        if (loft.digest() != before) {
            note(call + " changed the loft");
        }
    }

    /**
     * What is wrong with an exception that is to be of this class and thrown by a statement of the
     * loft's own, not by the machine or its library; null if nothing is.
     */
    static String faultOf(RuntimeException got, Class<? extends RuntimeException> want) {
        StackTraceElement[] trace = got.getStackTrace();
        if (got.getClass() != want) {
            return "threw " + got.getClass() + ", due is " + want;
        }
        if (trace.length == 0 || !trace[0].getClassName().startsWith("HerbLoft")) {
            return "did not throw itself: " + got;
        }
        return null;
    }

    static void note(String text) {
        wrong++;
        System.out.println(text);
    }

    static void end() {
        if (wrong > 0) {
            System.exit(1);
        }
    }
}
