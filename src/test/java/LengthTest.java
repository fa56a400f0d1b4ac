/** Promise 10: length. */
final class LengthTest {
    public static void main(String[] args) {
        Check check = new Check();
        Writer w = new Writer();
        int nothing = w.nothing();
        int one = w.number(1);
        int heads = w.pair(w.pair(w.pair(one, one), one), nothing);
        due(check, w, nothing, 0);
        due(check, w, one, 0);
        due(check, w, w.pair(one, nothing), 1);
        due(check, w, w.pair(one, one), 1);
        due(check, w, heads, 1);
        due(check, w, w.pair(heads, heads), 2);
        due(check, w, w.pair(one, w.pair(one, w.pair(nothing, one))), 3);
        due(check, w, w.lastly(heads, w.failing()), 0);
        due(check, w, w.pair(one, heads), 2);
        check.due("run(6, 0, 0)", w.x.run(6, 0, 0), DeepStacks.UNKNOWN);
        check.due("length() behind a refused RUN", w.x.length(), 2);
        due(check, w, w.call(0, heads, heads), 0);
        likePairs(check);
        pairsOfManyRuns(check);
        check.end();
    }

    private static void due(Check check, Writer w, int expression, int want) {
        w.runOf(expression, 0, 0);
        check.due("length() of expression " + expression, w.x.length(), want);
    }

    /** The PAIRS of a RUN are its own: those of the RUNS before take nothing from them. */
    private static void pairsOfManyRuns(Check check) {
        Writer w = new Writer();
        int top = w.argument(1);
        for (int i = 0; i < 7; i++) {
            top = w.pair(w.argument(0), top);
        }
        for (int run = 0; run < 40; run++) {
            w.runOf(top, run, -run);
            check.due("length() of RUN " + run, w.x.length(), 7);
            check.due("sort behind 7 TAILS", w.x.sort(127L, 7), 1);
            check.due("number behind 7 TAILS", w.x.number(127L, 7), -run);
            check.due("number at the last HEAD", w.x.number(63L, 7), run);
        }
    }

    /** PAIRS of which many are LIKE are counted one by one all the same. */
    private static void likePairs(Check check) {
        Writer w = new Writer();
        w.runOf(w.doubled(9, w.nothing(), 6), 0, 0);
        check.due("told(3)", w.x.told(3), 63);
        check.due("length()", w.x.length(), 6);
    }
}
