import java.util.NoSuchElementException;

/** Counts a test's answers that are not as due, and ends it with exit code 1 if there was one. */
final class Checks {
    interface Call {
        int answer();
    }

    private int wrong;

    void due(String call, int got, int want) {
        if (got != want) {
            tell(call + " answered " + got + ", due is " + want);
        }
    }

    void noSuch(String call, Call made) {
        mustThrow(call, made, NoSuchElementException.class);
    }

    void illegal(String call, Call made) {
        mustThrow(call, made, IllegalArgumentException.class);
    }

    void tell(String message) {
        wrong++;
        System.out.println(message);
    }

    void end() {
        if (wrong != 0) {
            System.out.println(wrong + " answers are not as due");
            System.exit(1);
        }
    }

    private void mustThrow(String call, Call made, Class<? extends RuntimeException> want) {
        try {
            tell(call + " answered " + made.answer() + ", due is " + want.getName());
        } catch (RuntimeException thrown) {
            if (thrown.getClass() != want) {
                tell(call + " threw " + thrown.getClass().getName() + ", due is " + want.getName());
            }
        }
    }
}
