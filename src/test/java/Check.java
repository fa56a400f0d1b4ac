import java.util.NoSuchElementException;

/** Compares answers with what is due, and ends a test with exit code 1 if one was wrong. */
final class Check {
    /** A call whose exception is looked at; its answer is not. */
    interface Call {
        void make();
    }

    private int wrong;

    void due(String call, long got, long want) {
        if (got != want) {
            wrong++;
            System.out.println(call + " answered " + got + ", due is " + want);
        }
    }

    void dueThrow(String call, Class<? extends RuntimeException> want, Call made) {
        Class<?> got = null;
        try {
            made.make();
        } catch (RuntimeException e) {
            got = e.getClass();
        }
        if (got != want) {
            wrong++;
            System.out.println(call + " threw " + got + ", due is " + want);
        }
    }

    void dueNoNote(DeepStacks x, int i) {
        dueThrow("note(" + i + ")", NoSuchElementException.class, () -> x.note(i));
    }

    void dueNoNumber(DeepStacks x, long path, int n, Class<? extends RuntimeException> want) {
        dueThrow("number(" + path + ", " + n + ")", want, () -> x.number(path, n));
    }

    void end() {
        if (wrong != 0) {
            System.out.println(wrong + " answers are not as due");
            System.exit(1);
        }
    }
}
