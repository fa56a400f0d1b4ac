/**
 * "STEPS is 1 more", of each kind: the STEPS that it takes with its parts; and "EXPRESSIONS FAILED
 * themselves", of each kind that can: its own FAILURE is one, in a RUN that takes no STEP more.
 */
final class KindTest {
    private final Check check = new Check();
    private final Writer w = new Writer();
    private final int number = w.number(4);
    private final int nothing = w.nothing();
    private final int pair = w.pair(number, nothing);

    public static void main(String[] args) {
        KindTest test = new KindTest();
        test.stepsOfKinds();
        test.failuresOfSorts();
        test.otherFailures();
        test.check.end();
    }

    private void due(int expression, int outcome, int steps) {
        String of = " of expression " + expression;
        int before = w.x.told(8);
        check.due("run" + of, w.runOf(expression, 6, 3), outcome);
        check.due("told(1)" + of, w.x.told(1), steps);
        check.due("told(8)" + of, w.x.told(8) - before, outcome == 0 ? 0 : 1);
    }

    private void dueSteps(int expression, int steps) {
        due(expression, 0, steps);
    }

    private void dueFault(int expression, int fault, int steps) {
        due(expression, 1 + fault, steps);
    }

    private void stepsOfKinds() {
        w.x.body(1, number);
        dueSteps(number, 1);
        dueSteps(w.argument(0), 1);
        for (int kind = 2; kind <= 6; kind++) {
            dueSteps(w.x.expression(kind, number, number, 0), 3);
        }
        dueSteps(w.choice(number, number, pair), 3);
        dueSteps(w.choice(w.number(0), number, pair), 5);
        dueSteps(w.call(1, number, pair), 6);
        dueSteps(w.isPair(w.call(1, number, pair)), 7);
        dueSteps(pair, 3);
        dueSteps(w.head(pair), 4);
        dueSteps(w.tail(pair), 4);
        dueSteps(nothing, 1);
        dueSteps(w.isPair(pair), 4);
        dueSteps(w.like(pair, pair), 7);
        dueSteps(w.caught(pair, number, Writer.ANY), 4);
        dueSteps(w.lastly(pair, number), 5);
        dueSteps(w.noted(number), 2);
    }

    private void failuresOfSorts() {
        for (int kind = 2; kind <= 6; kind++) {
            dueFault(w.x.expression(kind, nothing, number, 0), Writer.EMPTY, 3);
            dueFault(w.x.expression(kind, number, pair, 0), Writer.CAST, 5);
        }
        for (int kind : new int[] {7, 17, 18}) {
            dueFault(w.x.expression(kind, nothing, number, number), Writer.EMPTY, 2);
            dueFault(w.x.expression(kind, pair, number, number), Writer.CAST, 4);
        }
        for (int kind : new int[] {10, 11}) {
            dueFault(w.x.expression(kind, nothing, 0, 0), Writer.EMPTY, 2);
            dueFault(w.x.expression(kind, number, 0, 0), Writer.CAST, 2);
        }
    }

    private void otherFailures() {
        dueFault(w.divided(number, w.number(0)), Writer.ZERO, 3);
        dueFault(w.raise(number), Writer.RAISED, 2);
        dueFault(w.call(5, number, number), Writer.EMPTY, 3);
        dueFault(w.isPair(w.call(5, number, number)), Writer.EMPTY, 4);
        w.x.room(1);
        dueFault(w.isPair(w.call(1, number, number)), Writer.DEEP, 4);
        int failing = w.failing();
        dueFault(w.caught(failing, number, Writer.CAST), Writer.EMPTY, 3);
        dueFault(w.lastly(failing, number), Writer.EMPTY, 4);
        dueFault(w.lastly(number, failing), Writer.EMPTY, 4);
    }
}
