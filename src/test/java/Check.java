/** What the tests share: it counts wrong answers, prints them, and ends the test. */
final class Check {
    interface Call {
        long answer();
    }

    private static int wrong = 0;

    private Check() {
    }

    static void equal(String what, long got, long due) {
        if (got != due) {
            tell(what, Long.toString(got), Long.toString(due));
        }
    }

    static void same(String what, String got, String due) {
        if (!got.equals(due)) {
            tell(what, got, due);
        }
    }

    static void noRow(String what, Call call) {
        throwsOne(what, IndexOutOfBoundsException.class, call);
    }

    static void badArgument(String what, Call call) {
        throwsOne(what, IllegalArgumentException.class, call);
    }

    static void badState(String what, Call call) {
        throwsOne(what, IllegalStateException.class, call);
    }

    // the class must be the very one: the machine throws subclasses of it, and those are faults
    private static void throwsOne(String what, Class<? extends RuntimeException> due, Call call) {
        same(what, outcome(call), due.getSimpleName());
    }

    /** The answer as a text, or the name of the exception thrown. */
    static String outcome(Call call) {
        try {
            return Long.toString(call.answer());
        } catch (RuntimeException thrown) {
            return thrown.getClass().getSimpleName();
        }
    }

    private static void tell(String what, String got, String due) {
        wrong++;
        System.out.println(what + ": " + got + ", due is " + due);
    }

    static void end() {
        if (wrong != 0) {
            System.out.println(wrong + " answers are wrong");
            System.exit(1);
        }
        System.out.println("all answers are right");
    }
}
