/**
 * "5 FULL (9): the RUN made 100 PAIRS", and "in all RUNS 2000 EXPRESSIONS or more FAILED
 * themselves (by a FAULT of their own, whether it was caught or not)".
 */
final class FullTest {
    public static void main(String[] args) {
        Check check = new Check();
        hundredPairs(check);
        hundredPairsApart(check);
        pairsLetGoCount(check);
        fullBehindItsParts(check);
        failuresThatGoOn(check);
        failuresThatAreCaught(check);
        runWithoutFailureAtTheBound(check);
        failuresOfSpentRuns(check);
        check.end();
    }

    /**
     * FUNCTION 0 comes to a list of 98 PAIRS, with the ARGUMENT 0 at each of them, round what is
     * made; that is worked in the CALL of the RUN.
     */
    private static Writer round(Writer.Made made) {
        Writer w = new Writer();
        int seven = w.argument(1);
        for (int i = 0; i < 7; i++) {
            seven = w.pair(w.argument(0), seven);
        }
        w.x.body(1, seven);
        int fortyNine = w.argument(1);
        for (int i = 0; i < 7; i++) {
            fortyNine = w.call(1, w.argument(0), fortyNine);
        }
        w.x.body(2, fortyNine);
        int x = w.argument(0);
        w.x.body(0, w.call(2, x, w.call(2, x, made.by(w))));
        return w;
    }

    private static void due(Check check, Writer w, int outcome, int pairs, int failed) {
        check.due("run(0, 0, 0)", w.x.run(0, 0, 0), outcome);
        check.due("told(3)", w.x.told(3), pairs);
        check.due("told(8)", w.x.told(8), failed);
    }

    private static void hundredPairs(Check check) {
        Writer one = round(w -> w.pair(w.nothing(), w.nothing()));
        due(check, one, 0, 99, 0);
        check.due("length()", one.x.length(), 99);
        Writer two = round(w -> w.pair(w.nothing(), w.pair(w.nothing(), w.nothing())));
        due(check, two, 0, 100, 0);
        check.due("length()", two.x.length(), 100);
        check.due("sort of 60 TAILS", two.x.sort(-1L, 60), 2);
        Writer three = round(w -> w.pair(w.nothing(), w.pair(w.nothing(), w.pair(w.nothing(), w.nothing()))));
        due(check, three, 1 + Writer.FULL, 100, 1);
        check.due("length()", three.x.length(), 0);
        due(check, three, 1 + Writer.FULL, 100, 2);
    }

    /** No two of the 100 are LIKE, in this RUN or the others; each is told as it was made. */
    private static void hundredPairsApart(Check check) {
        Writer w = round(v -> v.pair(v.argument(1), v.pair(v.number(7), v.argument(0))));
        for (int run = 1; run <= 5; run++) {
            check.due("run(0, ..)", w.x.run(0, run, -run), 0);
            check.due("told(3)", w.x.told(3), 100);
            check.due("length()", w.x.length(), 100);
            check.due("number at the first HEAD", w.x.number(0L, 1), run);
            check.due("number at the 60th HEAD", w.x.number((1L << 59) - 1, 60), run);
        }
        Writer three = round(v -> v.pair(v.argument(1), v.pair(v.number(7), v.pair(v.number(8), v.number(9)))));
        check.due("run(0, 1, 2)", three.x.run(0, 1, 2), 1 + Writer.FULL);
    }

    /**
     * PAIRS that nothing holds any more, or behind which the work FAILED, are still made ones; and
     * each is one of its own, though most of those here are LIKE others.
     */
    private static void pairsLetGoCount(Check check) {
        Writer w = new Writer();
        int sixtyThree = w.doubled(9, w.nothing(), 6);
        int thirtyOne = sixtyThree - 1;
        int seven = sixtyThree - 3;
        int three = sixtyThree - 4;
        int one = sixtyThree - 5;
        int zero = w.number(0);
        w.x.body(4, sixtyThree);
        w.x.body(5, thirtyOne);
        int cast = w.raise(w.call(4, zero, zero));
        int gone = w.caught(cast, w.isPair(w.call(5, zero, zero)), Writer.CAST);
        w.x.body(1, w.plus(gone, w.isPair(three)));
        check.due("run(1, 0, 0)", w.x.run(1, 0, 0), 0);
        check.due("told(3)", w.x.told(3), 97);
        w.x.body(2, w.lastly(w.call(1, one, one), one));
        check.due("run(2, 0, 0)", w.x.run(2, 0, 0), 0);
        check.due("told(3)", w.x.told(3), 100);
        w.x.body(3, w.lastly(w.call(1, one, one), three));
        check.due("run(3, 0, 0)", w.x.run(3, 0, 0), 1 + Writer.FULL);
        check.due("told(3)", w.x.told(3), 100);
        w.x.body(3, w.caught(w.lastly(w.call(1, one, one), seven), one, Writer.FULL));
        check.due("run(3, 0, 0)", w.x.run(3, 0, 0), 1 + Writer.FULL);
        check.due("run(1, 0, 0)", w.x.run(1, 0, 0), 0);
        check.due("told(3)", w.x.told(3), 97);
    }

    /** A part that FAILS leaves the 9 before it could be FULL; other kinds work on. */
    private static void fullBehindItsParts(Check check) {
        Writer w = new Writer();
        int sixtyThree = w.doubled(9, w.nothing(), 6);
        int thirtyOne = sixtyThree - 1;
        int three = sixtyThree - 4;
        w.x.body(1, w.like(sixtyThree, thirtyOne));
        int zero = w.number(0);
        int most = w.lastly(w.call(1, zero, zero), w.like(three, three));
        dueAtMost(check, w, most, w.pair(zero, zero), 1 + Writer.FULL);
        dueAtMost(check, w, most, w.pair(w.raise(zero), zero), 1 + Writer.RAISED);
        dueAtMost(check, w, most, w.pair(zero, w.divided(zero, zero)), 1 + Writer.ZERO);
        dueAtMost(check, w, most, w.caught(w.pair(zero, zero), w.noted(zero), Writer.FULL), 0);
        check.due("told(4)", w.x.told(4), 1);
        dueAtMost(check, w, most, w.plus(w.like(w.nothing(), w.nothing()), zero), 0);
        dueAtMost(check, w, most, w.caught(w.pair(zero, zero), zero, Writer.DEEP), 1 + Writer.FULL);
    }

    private static void dueAtMost(Check check, Writer w, int most, int behind, int want) {
        check.due("run behind 100 PAIRS", w.runOf(w.lastly(most, behind), 0, 0), want);
        check.due("told(3)", w.x.told(3), 100);
    }

    private static void failuresThatGoOn(Check check) {
        Writer w = new Writer();
        upToTheBound(check, w, w.failing(), 1 + Writer.EMPTY);
    }

    private static void failuresThatAreCaught(Check check) {
        Writer w = new Writer();
        upToTheBound(check, w, w.caught(w.failing(), w.number(0), Writer.ANY), 0);
    }

    /** Each leaf FAILS once: there are 16 of them in a RUN of FUNCTION 0, 15 in one of FUNCTION 1. */
    private static void upToTheBound(Check check, Writer w, int leaf, int told) {
        w.x.body(0, w.doubled(16, leaf, 4));
        int three = w.lastly(w.lastly(leaf, leaf), leaf);
        w.x.body(1, w.lastly(w.lastly(three, w.doubled(16, leaf, 2)), w.doubled(16, leaf, 3)));
        w.x.body(2, leaf);
        for (int i = 0; i < 124; i++) {
            check.due("run(0, 0, 0)", w.x.run(0, 0, 0), told);
        }
        check.due("run(1, 0, 0)", w.x.run(1, 0, 0), told);
        check.due("told(8)", w.x.told(8), 1999);
        check.due("run(2, 0, 0)", w.x.run(2, 0, 0), told);
        check.due("told(8)", w.x.told(8), 2000);
        check.due("run(2, 0, 0)", w.x.run(2, 0, 0), DeepStacks.FULL);
        check.due("run(0, 0, 0)", w.x.run(0, 0, 0), DeepStacks.FULL);
        check.due("told(8)", w.x.told(8), 2000);
        check.due("room(3)", w.x.room(3), 10);
        check.due("body(2, 0)", w.x.body(2, 0), leaf);
        check.due("run(2, 0, 0)", w.x.run(2, 0, 0), DeepStacks.FULL);
    }

    private static void runWithoutFailureAtTheBound(Check check) {
        Writer w = new Writer();
        int bad = w.failing();
        w.x.body(0, w.doubled(16, bad, 6));
        w.x.body(1, bad);
        w.x.body(2, w.argument(0));
        for (int i = 0; i < 31; i++) {
            w.x.run(0, 0, 0);
        }
        for (int i = 0; i < 15; i++) {
            w.x.run(1, 0, 0);
        }
        check.due("told(8)", w.x.told(8), 1999);
        for (int i = 0; i < 5; i++) {
            check.due("run(2, 8, 0)", w.x.run(2, 8, 0), 0);
            check.due("told(8)", w.x.told(8), 1999);
        }
        check.due("run(0, 0, 0)", w.x.run(0, 0, 0), 1 + Writer.EMPTY);
        check.due("told(8)", w.x.told(8), 2063);
        check.due("run(2, 8, 0)", w.x.run(2, 8, 0), DeepStacks.FULL);
        check.due("told(0)", w.x.told(0), 1 + Writer.EMPTY);
    }

    private static void failuresOfSpentRuns(Check check) {
        Writer w = new Writer();
        int zero = w.number(0);
        w.x.body(0, w.lastly(w.failing(), w.lastly(w.raise(zero), w.call(1, zero, zero))));
        w.x.body(1, w.call(1, zero, zero));
        check.due("run(0, 0, 0)", w.x.run(0, 0, 0), 7);
        check.due("told(8)", w.x.told(8), 2);
        check.due("run(0, 0, 0)", w.x.run(0, 0, 0), 7);
        check.due("told(8)", w.x.told(8), 4);
    }
}
