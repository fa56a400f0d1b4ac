/** Promise 8: sort. */
final class SortTest {
    public static void main(String[] args) {
        Check check = new Check();
        places(check);
        withoutValue(check);
        longPaths(check);
        check.end();
    }

    private static void due(Check check, DeepStacks x, long path, int n, int want) {
        check.due("sort(" + path + ", " + n + ")", x.sort(path, n), want);
    }

    /** ((1 . NOTHING) . (NOTHING . (2 . 3))) */
    private static void places(Check check) {
        Writer w = new Writer();
        int nothing = w.nothing();
        int left = w.pair(w.number(1), nothing);
        int right = w.pair(nothing, w.pair(w.number(2), w.number(3)));
        w.runOf(w.pair(left, right), 0, 0);
        due(check, w.x, 0L, 0, 2);
        due(check, w.x, -1L, 0, 2);
        due(check, w.x, 0L, 1, 2);
        due(check, w.x, 1L, 1, 2);
        due(check, w.x, 0L, 2, 1);
        due(check, w.x, 2L, 2, 0);
        due(check, w.x, 1L, 2, 0);
        due(check, w.x, 3L, 2, 2);
        due(check, w.x, 3L, 3, 1);
        due(check, w.x, 7L, 3, 1);
        due(check, w.x, 15L, 3, 1);
        due(check, w.x, 0L, 3, DeepStacks.NONE);
        due(check, w.x, 1L, 3, DeepStacks.NONE);
        due(check, w.x, 7L, 4, DeepStacks.NONE);
        due(check, w.x, -1L, 60, DeepStacks.NONE);
        for (int n : new int[] {-1, 61, Integer.MIN_VALUE, Integer.MAX_VALUE}) {
            due(check, w.x, 0L, n, DeepStacks.OUTSIDE);
        }
        w.x.run(6, 0, 0);
        due(check, w.x, 3L, 2, 2);
    }

    private static void withoutValue(Check check) {
        Writer w = new Writer();
        int pair = w.pair(w.number(1), w.number(2));
        w.runOf(pair, 0, 0);
        due(check, w.x, 0L, 0, 2);
        w.runOf(w.lastly(pair, w.failing()), 0, 0);
        due(check, w.x, 0L, 0, DeepStacks.NONE);
        due(check, w.x, 0L, 1, DeepStacks.NONE);
        due(check, w.x, 0L, 61, DeepStacks.OUTSIDE);
        w.runOf(pair, 0, 0);
        due(check, w.x, 0L, 0, 2);
        w.runOf(w.call(0, pair, pair), 0, 0);
        check.due("told(0)", w.x.told(0), 7);
        due(check, w.x, 0L, 0, DeepStacks.NONE);
        w.runOf(w.nothing(), 0, 0);
        due(check, w.x, 0L, 0, 0);
        due(check, w.x, 0L, 1, DeepStacks.NONE);
        w.runOf(w.argument(0), 0, 0);
        due(check, w.x, 0L, 0, 1);
    }

    /** 62 PAIRS along the TAILS: fewer than all of them can be reached by a path. */
    private static void longPaths(Check check) {
        Writer w = new Writer();
        int y = w.argument(1);
        int top = y;
        for (int i = 0; i < 6; i++) {
            top = w.pair(w.nothing(), top);
        }
        w.x.body(1, top);
        int more = y;
        for (int i = 0; i < 6; i++) {
            more = w.call(1, y, more);
        }
        w.x.body(2, more);
        w.runOf(w.call(2, y, w.call(1, y, w.call(1, y, w.call(1, y, w.call(2, y, y))))), 0, 5);
        int pairs = w.x.told(3);
        check.due("told(3)", pairs > 62 ? 1 : 0, 1);
        due(check, w.x, -1L, 60, 2);
        due(check, w.x, (1L << 60) - 1, 60, 2);
        due(check, w.x, (1L << 59) - 1, 60, 0);
        due(check, w.x, (1L << 58) - 1, 60, DeepStacks.NONE);
        check.due("length()", w.x.length(), pairs);
    }
}
