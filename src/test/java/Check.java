/** What the tests share: they note each wrong answer, and end with exit code 1 if there was one. */
final class Check {
    static final Class<IndexOutOfBoundsException> INDEX = IndexOutOfBoundsException.class;
    static final Class<IllegalArgumentException> ARGUMENT = IllegalArgumentException.class;
    static final Class<IllegalStateException> STATE = IllegalStateException.class;

    private static int wrong = 0;

    private Check() {
    }

    static void due(String call, long got, long want) {
        if (got != want) {
            note(call + " answered " + got + ", due is " + want);
        }
    }

    static void due(String call, double got, double want) {
        if (got != want) {
            note(call + " answered " + got + ", due is " + want);
        }
    }

    /** The call must throw exactly this, and leave the loft as it was. */
    static void fails(String call, Class<? extends RuntimeException> want, HerbLoft loft, Runnable run) {
        long before = loft.digest();
        Class<?> got = null;
        try {
            run.run();
        } catch (RuntimeException e) {
            got = e.getClass();
        }
        if (got != want) {
            note(call + " threw " + got + ", due is " + want);
        }
        if (loft.digest() != before) {
            note(call + " changed the loft");
        }
    }

    static void note(String text) {
        wrong++;
        System.out.println(text);
    }

    static void end() {
        if (wrong > 0) {
            System.exit(1);
        }
    }
}
