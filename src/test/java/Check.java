/** Counts what is not as it is due, and ends a test. */
final class Check {
    interface Call {
        void run();
    }

    private final String test;
    private int checks = 0;
    private int wrong = 0;

    Check(String itsTest) {
        test = itsTest;
    }

    void same(String what, long got, long due) {
        note(got == due, what + " answered " + got + ", due is " + due);
    }

    void near(String what, double got, double due) {
        note(got == due, what + " answered " + got + ", due is " + due);
    }

    void yes(String what, boolean got) {
        note(got, what + " answered false, due is true");
    }

    void no(String what, boolean got) {
        note(!got, what + " answered true, due is false");
    }

    /** Wants the very class: an ArrayIndexOutOfBoundsException is no answer. */
    void fails(String what, Class<? extends RuntimeException> due, Call call) {
        Class<?> got = null;
        try {
            call.run();
        } catch (RuntimeException thrown) {
            got = thrown.getClass();
        }
        note(got == due, what + " threw " + got + ", due is " + due);
    }

    private void note(boolean isRight, String text) {
        checks++;
        if (!isRight) {
            wrong++;
            System.out.println(test + ": " + text);
        }
    }

    void end() {
        System.out.println(test + ": " + checks + " checks, " + wrong + " wrong");
        if (wrong > 0) {
            System.exit(1);
        }
    }
}
