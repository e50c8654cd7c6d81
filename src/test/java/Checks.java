import java.util.Arrays;
import java.util.NoSuchElementException;

/** Counts a test's answers that are not as due, and ends it with exit code 1 if there was one. */
final class Checks {
    interface Call {
        int answer();
    }

    private int wrong;
    private String sentence = "";

    /** The document's sentence that the checks behind this hold to, for their messages. */
    void sentence(String quoted) {
        sentence = "\"" + quoted + "\": ";
    }

    void due(String call, int got, int want) {
        if (got != want) {
            tell(call + " answered " + got + ", due is " + want);
        }
    }

    void noSuch(String call, Call made) {
        mustThrow(call, made, NoSuchElementException.class);
    }

    void illegal(String call, Call made) {
        mustThrow(call, made, IllegalArgumentException.class);
    }

    void alike(String when, int[] got, int[] want) {
        if (!Arrays.equals(got, want)) {
            tell(when + " there was " + Arrays.toString(got) + ", due is " + Arrays.toString(want));
        }
    }

    void tell(String message) {
        wrong++;
        System.out.println(sentence + message);
    }

    void end() {
        if (wrong != 0) {
            System.out.println(wrong + " answers are not as due");
            System.exit(1);
        }
    }

    private void mustThrow(String call, Call made, Class<? extends RuntimeException> want) {
        try {
            tell(call + " answered " + made.answer() + ", due is " + want.getName());
        } catch (RuntimeException thrown) {
            if (thrown.getClass() != want) {
                tell(call + " threw " + thrown.getClass().getName() + ", due is " + want.getName());
            }
        }
    }
}
