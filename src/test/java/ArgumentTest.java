/**
 * "ARGUMENT a (0, 1) of the CALL": of the one that is being worked, at any depth, whatever CALLS
 * were worked, FAILED or came in its place before.
 */
final class ArgumentTest {
    private static final int NO_NOTE = -1;

    private final Check check = new Check();
    private final Writer w = new Writer();
    private final int x = w.argument(0);
    private final int y = w.argument(1);

    public static void main(String[] args) {
        ArgumentTest test = new ArgumentTest();
        test.functions();
        test.withoutFailures();
        test.behindFailures();
        test.check.end();
    }

    /** FUNCTION 2 has what is tested as BODY; 1 calls it, and 0 calls 1. */
    private void functions() {
        int both = w.pair(x, y);
        w.x.body(0, w.pair(w.call(1, w.number(60), w.number(30)), both));
        w.x.body(1, w.pair(w.call(2, w.number(600), w.number(300)), both));
        w.x.body(3, w.minus(x, y));
        w.x.body(4, w.raise(x));
        w.x.body(5, w.call(3, y, x));
    }

    private void due(int expression, int want, int note) {
        w.x.body(2, expression);
        dueAt(2, 600, 300, 0);
        dueTold(expression, 0, want, note);
        dueAt(1, 60, 30, 1);
        dueTold(expression, 1, want, note);
        dueAt(0, 6, 3, 2);
        dueTold(expression, 2, want, note);
    }

    /** The CALLS round it still have their own ARGUMENTS: 6, 3 and 60, 30. */
    private void dueAt(int function, int a, int b, int depth) {
        check.due("run(" + function + ", " + a + ", " + b + ")", w.x.run(function, a, b), 0);
        int around = function == 0 ? 6 : 60;
        for (int i = 0; i < depth; i++) {
            check.due("ARGUMENT 0 at depth " + i, w.x.number(1L << i, i + 2), around);
            check.due("ARGUMENT 1 at depth " + i, w.x.number(3L << i, i + 2), around / 2);
            around *= 10;
        }
    }

    private void dueTold(int expression, int depth, int want, int note) {
        String of = " of expression " + expression + " at depth " + depth;
        check.due("sort" + of, w.x.sort(0L, depth), 1);
        check.due("number" + of, w.x.number(0L, depth), want);
        check.due("told(4)" + of, w.x.told(4), note == NO_NOTE ? 0 : 1);
        if (note != NO_NOTE) {
            check.due("note(0)" + of, w.x.note(0), note);
        }
    }

    private void withoutFailures() {
        int turned = w.call(3, y, x);
        due(x, 600, NO_NOTE);
        due(y, 300, NO_NOTE);
        due(turned, -300, NO_NOTE);
        due(w.minus(turned, x), -900, NO_NOTE);
        due(w.call(5, y, x), 300, NO_NOTE);
        due(w.minus(w.call(5, y, x), y), 0, NO_NOTE);
        due(w.call(3, y, turned), 600, NO_NOTE);
        due(w.call(3, turned, y), -600, NO_NOTE);
        due(w.choice(w.call(3, x, y), x, y), 600, NO_NOTE);
        due(w.choice(w.call(3, x, x), x, y), 300, NO_NOTE);
        due(w.lastly(x, turned), 600, NO_NOTE);
        due(w.lastly(turned, w.noted(y)), -300, 300);
    }

    private void behindFailures() {
        int turned = w.call(3, y, x);
        int failed = w.call(4, y, y);
        int difference = w.minus(x, y);
        due(w.caught(w.raise(y), difference, Writer.ANY), 300, NO_NOTE);
        due(w.caught(failed, x, Writer.RAISED), 600, NO_NOTE);
        due(w.caught(failed, difference, Writer.RAISED), 300, NO_NOTE);
        due(w.caught(failed, turned, Writer.ANY), -300, NO_NOTE);
        due(w.minus(w.caught(failed, turned, Writer.ANY), y), -600, NO_NOTE);
        due(w.caught(w.lastly(failed, w.noted(y)), x, Writer.ANY), 600, 300);
        due(w.caught(w.lastly(x, failed), w.noted(y), Writer.ANY), 300, 300);
    }
}
