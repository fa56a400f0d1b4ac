/** Writes EXPRESSIONS on an object by the names of their kinds; each method tells its number. */
final class Writer {
    static final int EMPTY = 0, CAST = 1, ZERO = 2, RAISED = 3, DEEP = 4, FULL = 5, ANY = 9;

    /** Makes an EXPRESSION by a writer that is made later than it is told. */
    interface Made {
        int by(Writer w);
    }

    final DeepStacks x = new DeepStacks();

    int number(int n) { return added(0, n, 0, 0); }
    int argument(int i) { return added(1, i, 0, 0); }
    int plus(int a, int b) { return added(2, a, b, 0); }
    int minus(int a, int b) { return added(3, a, b, 0); }
    int times(int a, int b) { return added(4, a, b, 0); }
    int divided(int a, int b) { return added(5, a, b, 0); }
    int below(int a, int b) { return added(6, a, b, 0); }
    int choice(int a, int b, int c) { return added(7, a, b, c); }
    int call(int function, int b, int c) { return added(8, function, b, c); }
    int pair(int a, int b) { return added(9, a, b, 0); }
    int head(int a) { return added(10, a, 0, 0); }
    int tail(int a) { return added(11, a, 0, 0); }
    int nothing() { return added(12, 0, 0, 0); }
    int isPair(int a) { return added(13, a, 0, 0); }
    int like(int a, int b) { return added(14, a, b, 0); }
    int caught(int a, int b, int fault) { return added(15, a, b, fault); }
    int lastly(int a, int b) { return added(16, a, b, 0); }
    int raise(int a) { return added(17, a, 0, 0); }
    int noted(int a) { return added(18, a, 0, 0); }

    /** Makes the EXPRESSION the BODY of FUNCTION 0 and calls that. */
    int runOf(int expression, int x0, int y0) {
        x.body(0, expression);
        return x.run(0, x0, y0);
    }

    /** An EXPRESSION that FAILS by EMPTY itself, in two STEPS. */
    int failing() {
        return head(nothing());
    }

    /** Doubles an EXPRESSION by a kind with two parts, some times over. */
    int doubled(int kind, int leaf, int times) {
        int top = leaf;
        for (int i = 0; i < times; i++) {
            top = added(kind, top, top, 0);
        }
        return top;
    }

    private int added(int kind, int a, int b, int c) {
        int e = x.expression(kind, a, b, c);
        if (e < 0) {
            throw new IllegalStateException("the test's EXPRESSION was refused: " + e);
        }
        return e;
    }
}
