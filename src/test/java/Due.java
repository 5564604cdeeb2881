import java.util.Objects;

/** Compares answers with those that are due, and counts those that are not. */
final class Due {
    interface Call {
        Object make();
    }

    private static int wrong = 0;

    private Due() {
    }

    static void is(String call, Object got, Object want) {
        if (Objects.equals(got, want)) return;
        wrong++;
        System.out.println(call + " answered " + got + ", due is " + want);
    }

    static void fails(String call, Class<? extends RuntimeException> want, Call made) {
        is(call, answer(made), want);
    }

    /** What a call answers, or the class of the exception that it throws. */
    static Object answer(Call made) {
        try {
            return made.make();
        } catch (RuntimeException e) {
            return e.getClass();
        }
    }

    /** Ends the program, with 1 if an answer was not due. */
    static void end() {
        System.out.println(wrong == 0 ? "all answers are as due" : wrong + " answers are not as due");
        if (wrong != 0) System.exit(1);
    }
}
