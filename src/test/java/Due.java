/** What the tests share: a count of wrong answers, and the end of a test. */
final class Due {
    /** A call whose exception is looked at. */
    interface Call {
        void make();
    }

    private static int wrong = 0;

    private Due() {
    }

    static void is(String what, long got, long want) {
        if (got != want) {
            wrong++;
            System.out.println(what + " answered " + got + ", due is " + want);
        }
    }

    static void is(String what, boolean got, boolean want) {
        is(what, got ? 1 : 0, want ? 1 : 0);
    }

    static void same(String what, String got, String want) {
        if (!got.equals(want)) {
            wrong++;
            System.out.println(what + " answered " + got + ", due is " + want);
        }
    }

    static void noIndex(String what, Call call) {
        fails(what, call, IndexOutOfBoundsException.class);
    }

    static void noArgument(String what, Call call) {
        fails(what, call, IllegalArgumentException.class);
    }

    static void noState(String what, Call call) {
        fails(what, call, IllegalStateException.class);
    }

    private static void fails(String what, Call call, Class<?> want) {
        String got = "nothing";
        try {
            call.make();
        } catch (RuntimeException e) {
            got = e.getClass().getName();
        }
        same(what + " throws", got, want.getName());
    }

    /** Ends the test, with exit code 1 if an answer was wrong. */
    static void end(String test) {
        System.out.println(test + ": " + (wrong == 0 ? "all answers are as due" : wrong + " answers are not as due"));
        if (wrong != 0) {
            System.exit(1);
        }
    }
}
