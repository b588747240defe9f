/** Counts what is not as it is due, and prints the first of it. */
public final class Check {
    private static final int MOST_LINES = 30;
    private static int wrong = 0;
    private static String place = "";

    private Check() {
    }

    /** A call whose answer is an int. */
    public interface IntCall {
        int run();
    }

    /** A call whose answer is a boolean. */
    public interface BooleanCall {
        boolean run();
    }

    /**
     * Tries a sentence of the document, of a promise, or with 0 of what stands ahead of the
     * promises; what is wrong is told with both.
     */
    public static void sentence(int promise, String sentence, Runnable test) {
        place = (promise == 0 ? "terms" : "promise " + promise) + ", \"" + sentence + "\": ";
        Document.quote(promise, sentence);
        try {
            test.run();
        } catch (RuntimeException e) {
            fail("a call that should answer threw " + e);
        }
        place = "";
    }

    /** The ints next to a range, and the least and the greatest of all. */
    public static int[] outside(int least, int greatest) {
        return new int[] {least - 1, greatest + 1, Integer.MIN_VALUE, Integer.MAX_VALUE};
    }

    public static void due(String what, long want, IntCall call) {
        try {
            compare(what, want, call.run());
        } catch (RuntimeException e) {
            fail(what + " threw " + e.getClass().getName() + ", due is " + want);
        }
    }

    public static void due(String what, boolean want, BooleanCall call) {
        due(what, want ? 1 : 0, () -> call.run() ? 1 : 0);
    }

    /** The very class is due: a subclass of it would be one that the machine throws. */
    public static void raises(String what, Class<? extends RuntimeException> want, Runnable call) {
        try {
            call.run();
            fail(what + " threw nothing, due is " + want.getName());
        } catch (RuntimeException e) {
            if (e.getClass() != want) {
                fail(what + " threw " + e.getClass().getName() + ", due is " + want.getName());
            }
        }
    }

    public static void outOfBounds(String what, Runnable call) {
        raises(what, IndexOutOfBoundsException.class, call);
    }

    public static void illegalArgument(String what, Runnable call) {
        raises(what, IllegalArgumentException.class, call);
    }

    public static void illegalState(String what, Runnable call) {
        raises(what, IllegalStateException.class, call);
    }

    public static void compare(String what, Object want, Object got) {
        if (!want.equals(got)) {
            fail(what + " is " + got + ", due is " + want);
        }
    }

    public static void compare(String what, long want, long got) {
        compare(what, Long.valueOf(want), Long.valueOf(got));
    }

    public static void fail(String message) {
        wrong++;
        if (wrong <= MOST_LINES) {
            System.out.println("WRONG: " + place + message);
        }
    }

    /** To be called last by each test's main. */
    public static void end() {
        if (wrong != 0) {
            System.out.println(wrong + " answers are not as due");
            System.exit(1);
        }
    }
}
