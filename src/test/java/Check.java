import java.util.function.Consumer;
import java.util.function.Supplier;

/** Counts what is not as it is due, and ends a test. */
final class Check {
    interface Call {
        void run();
    }

    private final String test;
    private String sentence = "";
    private int checks = 0;
    private int wrong = 0;

    Check(String itsTest) {
        test = itsTest;
    }

    /** The sentence of the document that the next checks are for: it is told with what is wrong. */
    void says(String itsSentence) {
        sentence = " \"" + itsSentence + "\"";
    }

    void same(String what, long got, long due) {
        note(got == due, what + " answered " + got + ", due is " + due);
    }

    void near(String what, double got, double due) {
        note(got == due, what + " answered " + got + ", due is " + due);
    }

    void yes(String what, boolean got) {
        note(got, what + " answered false, due is true");
    }

    void no(String what, boolean got) {
        note(!got, what + " answered true, due is false");
    }

    /** Wants the very class: an ArrayIndexOutOfBoundsException is no answer. */
    void fails(String what, Class<? extends RuntimeException> due, Call call) {
        Class<?> got = null;
        try {
            call.run();
        } catch (RuntimeException thrown) {
            got = thrown.getClass();
        }
        note(got == due, what + " threw " + got + ", due is " + due);
    }

    /** A call that is refused: it throws what is due, and the object answers then as one that was never asked. */
    void refused(String what, Class<? extends RuntimeException> due, Supplier<Popupwright> maker,
            Consumer<Popupwright> call) {
        Popupwright asked = maker.get();
        fails(what, due, () -> call.accept(asked));
        note(Probe.of(asked).equals(Probe.of(maker.get())), what + " was refused, but something has changed");
    }

    private void note(boolean isRight, String text) {
        checks++;
        if (!isRight) {
            wrong++;
            System.out.println(test + sentence + ": " + text);
        }
    }

    void end() {
        System.out.println(test + ": " + checks + " checks, " + wrong + " wrong");
        if (wrong > 0) {
            System.exit(1);
        }
    }
}
