/** Promise 9: number. */
final class NumberTest {
    private static final Class<NullPointerException> NO_NUMBER = NullPointerException.class;
    private static final Class<ClassCastException> A_PAIR = ClassCastException.class;
    private static final Class<IllegalArgumentException> OUTSIDE = IllegalArgumentException.class;

    public static void main(String[] args) {
        Check check = new Check();
        places(check);
        withoutValue(check);
        wholeRange(check);
        check.end();
    }

    /** ((-1 . NOTHING) . 7) */
    private static void places(Check check) {
        Writer w = new Writer();
        w.runOf(w.pair(w.pair(w.number(-1), w.nothing()), w.number(7)), 0, 0);
        check.due("number(1, 1)", w.x.number(1L, 1), 7);
        check.due("number(3, 1)", w.x.number(3L, 1), 7);
        check.due("number(0, 2)", w.x.number(0L, 2), -1);
        check.dueNoNumber(w.x, 0L, 0, A_PAIR);
        check.dueNoNumber(w.x, 0L, 1, A_PAIR);
        check.dueNoNumber(w.x, 2L, 2, NO_NUMBER);
        check.dueNoNumber(w.x, 2L, 3, NO_NUMBER);
        check.dueNoNumber(w.x, 1L, 2, NO_NUMBER);
        check.dueNoNumber(w.x, 0L, 60, NO_NUMBER);
        for (int n : new int[] {-1, 61, Integer.MIN_VALUE, Integer.MAX_VALUE}) {
            check.dueNoNumber(w.x, 0L, n, OUTSIDE);
        }
        check.due("number(1, 1) behind throws", w.x.number(1L, 1), 7);
    }

    private static void withoutValue(Check check) {
        Writer w = new Writer();
        w.runOf(w.failing(), 0, 0);
        check.dueNoNumber(w.x, 0L, 0, NO_NUMBER);
        check.dueNoNumber(w.x, 0L, 1, NO_NUMBER);
        check.dueNoNumber(w.x, 0L, 61, OUTSIDE);
        w.runOf(w.nothing(), 0, 0);
        check.dueNoNumber(w.x, 0L, 0, NO_NUMBER);
        w.runOf(w.call(0, w.number(1), w.number(1)), 0, 0);
        check.dueNoNumber(w.x, 0L, 0, NO_NUMBER);
    }

    private static void wholeRange(Check check) {
        Writer w = new Writer();
        int both = w.pair(w.argument(0), w.argument(1));
        for (int n : new int[] {0, 1, -1, Integer.MIN_VALUE, Integer.MAX_VALUE}) {
            w.runOf(both, n, ~n);
            check.due("number(0, 1)", w.x.number(0L, 1), n);
            check.due("number(1, 1)", w.x.number(1L, 1), ~n);
        }
    }
}
