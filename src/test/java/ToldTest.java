/** Promise 6: told. */
final class ToldTest {
    public static void main(String[] args) {
        Check check = new Check();
        outside(check);
        allOfOneRun(check);
        whatWasRaised(check);
        callsTold(check);
        spentRun(check);
        ownFailuresOnly(check);
        check.end();
    }

    private static void due(Check check, DeepStacks x, int... want) {
        for (int what = 0; what < want.length; what++) {
            check.due("told(" + what + ")", x.told(what), want[what]);
        }
    }

    private static void outside(Check check) {
        DeepStacks x = new DeepStacks();
        for (int what : new int[] {-1, 9, Integer.MIN_VALUE, Integer.MAX_VALUE}) {
            check.due("told(" + what + ")", x.told(what), DeepStacks.OUTSIDE);
        }
    }

    /** Each RUN is told anew, but for the EXPRESSIONS that FAILED in all of them. */
    private static void allOfOneRun(Check check) {
        Writer w = new Writer();
        int x = w.argument(0);
        int y = w.argument(1);
        w.x.body(1, w.pair(w.noted(x), w.noted(y)));
        int raised = w.raise(w.noted(w.head(w.call(1, x, y))));
        w.x.room(15);
        w.runOf(raised, -8, 4);
        due(check, w.x, 4, 11, 2, 1, 3, 2, -8, 15, 1);
        w.runOf(w.isPair(y), 1, 2);
        due(check, w.x, 0, 2, 1, 0, 0, 1, 0, 15, 1);
        w.x.run(3, 0, 0);
        w.x.body(0, raised);
        w.x.room(2);
        due(check, w.x, 0, 2, 1, 0, 0, 1, 0, 2, 1);
        w.x.run(0, 0, 7);
        due(check, w.x, 4, 11, 2, 1, 3, 2, 0, 2, 2);
    }

    private static void whatWasRaised(Check check) {
        Writer w = new Writer();
        int five = w.raise(w.number(5));
        int nine = w.raise(w.number(9));
        int bad = w.failing();
        int quiet = w.caught(nine, w.number(0), Writer.ANY);
        dueRaised(check, w, five, 5);
        dueRaised(check, w, quiet, 0);
        dueRaised(check, w, bad, 0);
        dueRaised(check, w, w.lastly(five, nine), 9);
        dueRaised(check, w, w.lastly(five, quiet), 5);
        dueRaised(check, w, w.lastly(five, bad), 0);
        dueRaised(check, w, w.lastly(bad, quiet), 0);
        dueRaised(check, w, w.caught(five, nine, Writer.RAISED), 9);
        dueRaised(check, w, w.caught(five, bad, Writer.RAISED), 0);
        dueRaised(check, w, w.caught(five, nine, Writer.ZERO), 5);
        dueRaised(check, w, w.raise(bad), 0);
    }

    private static void dueRaised(Check check, Writer w, int expression, int want) {
        w.runOf(expression, 0, 0);
        check.due("told(6) of expression " + expression, w.x.told(6), want);
    }

    private static void callsTold(Check check) {
        Writer w = new Writer();
        int zero = w.number(0);
        w.x.body(1, w.isPair(zero));
        w.x.body(2, w.isPair(w.call(1, zero, zero)));
        int one = w.call(1, zero, zero);
        int two = w.call(2, zero, zero);
        w.runOf(w.plus(two, one), 0, 0);
        due(check, w.x, 0, 15, 3, 0, 0, 4);
        w.runOf(w.choice(one, one, one), 0, 0);
        due(check, w.x, 0, 11, 2, 0, 0, 3);
        w.runOf(w.call(3, one, one), 0, 0);
        due(check, w.x, 1, 11, 2, 0, 0, 3);
        w.runOf(w.noted(w.plus(zero, w.lastly(zero, w.call(0, zero, zero)))), 0, 0);
        due(check, w.x, 1 + Writer.DEEP, 80, 10, 0, 0, 10, 0, 10, 2);
    }

    /** The BODY of the last CALL was begun, by the STEP that was one too many. */
    private static void spentRun(Check check) {
        Writer w = new Writer();
        int zero = w.number(0);
        w.runOf(w.call(0, zero, zero), 0, 0);
        due(check, w.x, 7, 300, 1, 0, 0, 101, 0, 10, 0);
    }

    /** The FAILURE of a part is none of what it is in; nor is a FAILURE that goes on. */
    private static void ownFailuresOnly(Check check) {
        Writer w = new Writer();
        int bad = w.failing();
        w.runOf(w.plus(w.head(w.lastly(bad, w.nothing())), bad), 0, 0);
        check.due("told(8)", w.x.told(8), 1);
        w.runOf(w.caught(bad, w.caught(bad, bad, Writer.ANY), Writer.ANY), 0, 0);
        check.due("told(8)", w.x.told(8), 4);
        w.runOf(w.lastly(bad, bad), 0, 0);
        check.due("told(8)", w.x.told(8), 6);
        w.runOf(w.caught(bad, w.number(0), Writer.CAST), 0, 0);
        check.due("told(8)", w.x.told(8), 7);
        w.runOf(w.call(4, w.number(0), w.number(0)), 0, 0);
        check.due("told(8)", w.x.told(8), 8);
    }
}
