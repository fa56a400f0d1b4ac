/** "Deep values are compared and told without depth": neither STEPS nor room are taken for it. */
final class DeepValueTest {
    public static void main(String[] args) {
        Check check = new Check();
        for (boolean alongTails : new boolean[] {true, false}) {
            alike(check, alongTails);
            unlikeAtTheEnd(check, alongTails);
            unlikeInLength(check, alongTails);
        }
        acrossEachOther(check);
        check.end();
    }

    /** FUNCTION 1 puts 7 PAIRS, FUNCTION 2 49 PAIRS round ARGUMENT 1; ARGUMENT 0 stands beside. */
    private static Writer nested(boolean alongTails) {
        Writer w = new Writer();
        int seven = w.argument(1);
        for (int i = 0; i < 7; i++) {
            seven = alongTails ? w.pair(w.argument(0), seven) : w.pair(seven, w.argument(0));
        }
        w.x.body(1, seven);
        int more = w.argument(1);
        for (int i = 0; i < 7; i++) {
            more = w.call(1, w.argument(0), more);
        }
        w.x.body(2, more);
        w.x.room(3);
        return w;
    }

    /** STEPS of a CALL of FUNCTION 2 with parts of one STEP: the 8, its BODY, 7 times FUNCTION 1. */
    private static final int STEPS = 3 + 15 + 7 * 15;

    private static void due(Check check, Writer w, int expression, int y, int want) {
        check.due("run", w.runOf(expression, 6, y), 0);
        check.due("number(0, 0)", w.x.number(0L, 0), want);
        check.due("told(2)", w.x.told(2), 3);
    }

    private static void alike(Check check, boolean alongTails) {
        Writer w = nested(alongTails);
        int once = w.call(2, w.argument(0), w.argument(1));
        int again = w.call(2, w.argument(0), w.argument(1));
        due(check, w, w.like(once, again), 3, 1);
        check.due("told(1)", w.x.told(1), 1 + 2 * STEPS);
        check.due("told(3)", w.x.told(3), 98);
    }

    private static void unlikeAtTheEnd(Check check, boolean alongTails) {
        Writer w = nested(alongTails);
        int once = w.call(2, w.argument(0), w.argument(1));
        int other = w.call(2, w.argument(0), w.number(4));
        int like = w.like(once, other);
        due(check, w, like, 3, 0);
        due(check, w, like, 4, 1);
        due(check, w, like, 5, 0);
        due(check, w, w.like(once, w.call(2, w.argument(0), w.nothing())), 0, 0);
    }

    private static void unlikeInLength(Check check, boolean alongTails) {
        Writer w = nested(alongTails);
        int once = w.call(2, w.argument(0), w.argument(1));
        int longer = alongTails ? w.pair(w.argument(0), once) : w.pair(once, w.argument(0));
        due(check, w, w.like(once, longer), 3, 0);
        due(check, w, w.like(longer, once), 3, 0);
        int shorter = alongTails ? w.tail(longer) : w.head(longer);
        due(check, w, w.like(once, shorter), 3, 1);
        check.due("told(3)", w.x.told(3), 99);
    }

    /** What is alike in all its leaves, but not in where they stand, is not LIKE. */
    private static void acrossEachOther(Check check) {
        Writer w = new Writer();
        int a = w.argument(0);
        int b = w.argument(1);
        int left = w.pair(w.pair(a, b), a);
        int right = w.pair(a, w.pair(b, a));
        check.due("run", w.runOf(w.like(left, right), 1, 2), 0);
        check.due("number(0, 0)", w.x.number(0L, 0), 0);
        check.due("run", w.runOf(w.like(left, right), 1, 1), 0);
        check.due("number(0, 0)", w.x.number(0L, 0), 0);
    }
}
