/** Compares answers with those that are due, and ends a test program with exit code 1 if one was wrong. */
final class Check {
    /** A call that is due to throw. */
    interface Call {
        void run();
    }

    private static int right = 0;
    private static int wrong = 0;

    private Check() {
    }

    static void equal(String what, long got, long due) {
        record(got == due, what + " answered " + got + ", due is " + due);
    }

    static void equal(String what, boolean got, boolean due) {
        record(got == due, what + " answered " + got + ", due is " + due);
    }

    static void equal(String what, String got, String due) {
        record(got.equals(due), what + " answered " + got + ", due is " + due);
    }

    static void throwsNoVertex(String what, Call call) {
        throwsExactly(what, call, IndexOutOfBoundsException.class);
    }

    static void throwsState(String what, Call call) {
        throwsExactly(what, call, IllegalStateException.class);
    }

    static void throwsArgument(String what, Call call) {
        throwsExactly(what, call, IllegalArgumentException.class);
    }

    private static void throwsExactly(String what, Call call, Class<?> due) {
        String thrown = "nothing";
        try {
            call.run();
        } catch (RuntimeException e) {
            thrown = e.getClass().getName();
        }
        record(thrown.equals(due.getName()), what + " threw " + thrown + ", due is " + due.getName());
    }

    private static void record(boolean isRight, String message) {
        if (isRight) {
            right++;
        } else {
            wrong++;
            System.out.println("WRONG: " + message);
        }
    }

    static void finish(String test) {
        System.out.println(test + ": " + right + " answers as due, " + wrong + " not");
        if (wrong != 0 || right == 0) {
            System.exit(1);
        }
    }
}
