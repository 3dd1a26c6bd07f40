/** What the tests share: each answer is held against the one that is due, and the wrong ones are counted. */
final class Check {
    static final Class<? extends RuntimeException> NO_SUCH = java.util.NoSuchElementException.class;
    static final Class<? extends RuntimeException> NOT_SO = IllegalArgumentException.class;
    static final Class<? extends RuntimeException> STATE = IllegalStateException.class;
    static final Class<? extends RuntimeException> PLACE = IndexOutOfBoundsException.class;
    private static int wrong = 0;
    private static int asked = 0;

    private Check() { }

    static void due(String what, long got, long want) {
        asked++;
        if (got != want) {
            wrong++;
            System.out.println(what + ": answered " + got + ", due is " + want);
        }
    }

    static void due(String what, boolean got, boolean want) {
        due(what, got ? 1 : 0, want ? 1 : 0);
    }

    static void yes(String what, boolean so) {
        due(what, so, true);
    }

    /** The call must throw just that exception; with null, none. */
    static void due(String what, Runnable call, Class<? extends RuntimeException> want) {
        asked++;
        Class<?> got = null;
        try {
            call.run();
        } catch (RuntimeException e) {
            got = e.getClass();
        }
        if (got != want) {
            wrong++;
            System.out.println(what + ": threw " + got + ", due is " + want);
        }
    }

    static void end(String name) {
        System.out.println(name + ": " + asked + " answers, " + wrong + " wrong");
        if (wrong != 0 || asked == 0) {
            System.exit(1);
        }
    }
}
