/** Promise 5: run, and the rules of working that it rests on. */
final class RunTest {
    private static final int MIN = Integer.MIN_VALUE, MAX = Integer.MAX_VALUE;

    public static void main(String[] args) {
        Check check = new Check();
        refusals(check);
        numbersWrap(check);
        truths(check);
        wantedSorts(check);
        firstFaultCounts(check);
        fromLeftToRight(check);
        choices(check);
        likeness(check);
        catching(check);
        doneInAnyCase(check);
        callsWithoutBody(check);
        lastPlaces(check);
        argumentsOfCalls(check);
        roomGivenBack(check);
        deepestWork(check);
        spentRuns(check);
        fullOfPairs(check);
        fullOfFailures(check);
        check.end();
    }

    private static void due(Check check, Writer w, int expression, int want) {
        check.due("run of expression " + expression, w.runOf(expression, 6, 3), want);
        check.due("told(0) of expression " + expression, w.x.told(0), want);
    }

    private static void dueFault(Check check, Writer w, int expression, int fault) {
        due(check, w, expression, 1 + fault);
    }

    private static void dueNumber(Check check, Writer w, int expression, int want) {
        due(check, w, expression, 0);
        if (w.x.sort(0L, 0) == 1) {
            check.due("number of expression " + expression, w.x.number(0L, 0), want);
        } else {
            check.due("sort of expression " + expression, w.x.sort(0L, 0), 1);
        }
    }

    private static void refusals(Check check) {
        Writer w = new Writer();
        w.runOf(w.noted(w.argument(0)), 8, 9);
        for (int function : new int[] {-1, 1, 5, 6, MIN, MAX}) {
            check.due("run(" + function + ", 1, 2)", w.x.run(function, 1, 2), DeepStacks.UNKNOWN);
        }
        check.due("told(1)", w.x.told(1), 2);
        check.due("note(0)", w.x.note(0), 8);
        check.due("number(0, 0)", w.x.number(0L, 0), 8);
    }

    private static void numbersWrap(Check check) {
        Writer w = new Writer();
        int[] tried = {0, 1, -1, 2, -7, 46341, MIN, MAX};
        int x = w.argument(0);
        int y = w.argument(1);
        w.x.body(1, w.plus(x, y));
        w.x.body(2, w.minus(x, y));
        w.x.body(3, w.times(x, y));
        w.x.body(4, w.divided(x, y));
        for (int a : new int[] {-7, MIN, MAX}) {
            for (int b : tried) {
                int[] want = {0, a + b, a - b, a * b, b == 0 ? 0 : a / b};
                for (int f = 1; f <= 4; f++) {
                    String call = "run(" + f + ", " + a + ", " + b + ")";
                    boolean byZero = f == 4 && b == 0;
                    check.due(call, w.x.run(f, a, b), byZero ? 1 + Writer.ZERO : 0);
                    if (!byZero) {
                        check.due("number of " + call, w.x.number(0L, 0), want[f]);
                    }
                }
            }
        }
    }

    private static void truths(Check check) {
        Writer w = new Writer();
        int six = w.argument(0);
        int three = w.argument(1);
        int nothing = w.nothing();
        dueNumber(check, w, w.below(three, six), 1);
        dueNumber(check, w, w.below(six, three), 0);
        dueNumber(check, w, w.below(six, six), 0);
        dueNumber(check, w, w.below(w.number(MIN), w.number(MAX)), 1);
        dueNumber(check, w, w.below(w.number(MAX), w.number(MIN)), 0);
        dueNumber(check, w, w.isPair(w.pair(nothing, nothing)), 1);
        dueNumber(check, w, w.isPair(nothing), 0);
        dueNumber(check, w, w.isPair(six), 0);
        int pair = w.pair(six, three);
        dueNumber(check, w, w.head(pair), 6);
        dueNumber(check, w, w.tail(pair), 3);
    }

    private static void wantedSorts(Check check) {
        Writer w = new Writer();
        int number = w.number(1);
        int nothing = w.nothing();
        int pair = w.pair(number, number);
        for (int kind = 2; kind <= 6; kind++) {
            dueFault(check, w, w.x.expression(kind, nothing, number, 0), Writer.EMPTY);
            dueFault(check, w, w.x.expression(kind, pair, number, 0), Writer.CAST);
            dueFault(check, w, w.x.expression(kind, number, nothing, 0), Writer.EMPTY);
            dueFault(check, w, w.x.expression(kind, number, pair, 0), Writer.CAST);
            dueFault(check, w, w.x.expression(kind, pair, nothing, 0), Writer.CAST);
            dueFault(check, w, w.x.expression(kind, nothing, pair, 0), Writer.EMPTY);
        }
        for (int kind : new int[] {7, 17, 18}) {
            dueFault(check, w, w.x.expression(kind, nothing, number, number), Writer.EMPTY);
            dueFault(check, w, w.x.expression(kind, pair, number, number), Writer.CAST);
        }
        for (int kind : new int[] {10, 11}) {
            dueFault(check, w, w.x.expression(kind, nothing, 0, 0), Writer.EMPTY);
            dueFault(check, w, w.x.expression(kind, number, 0, 0), Writer.CAST);
        }
        dueFault(check, w, w.raise(number), Writer.RAISED);
    }

    private static void firstFaultCounts(Check check) {
        Writer w = new Writer();
        int zero = w.number(0);
        int pair = w.pair(zero, zero);
        dueFault(check, w, w.divided(pair, zero), Writer.CAST);
        dueFault(check, w, w.divided(w.nothing(), zero), Writer.EMPTY);
        dueFault(check, w, w.divided(zero, zero), Writer.ZERO);
        int raise = w.raise(zero);
        dueFault(check, w, w.plus(pair, raise), Writer.RAISED);
        dueFault(check, w, w.plus(raise, w.failing()), Writer.RAISED);
        dueFault(check, w, w.plus(w.failing(), raise), Writer.EMPTY);
        check.due("told(8) counts no part that was left out", w.x.told(8), 6);
    }

    private static void fromLeftToRight(Check check) {
        for (int kind : new int[] {2, 3, 4, 5, 6, 9, 14, 16}) {
            Writer w = new Writer();
            int left = w.noted(w.number(1));
            int right = w.noted(w.number(2));
            dueOrder(check, w, w.x.expression(kind, left, right, 0));
        }
        Writer w = new Writer();
        int left = w.noted(w.number(1));
        int right = w.noted(w.number(2));
        dueOrder(check, w, w.isPair(w.call(2, left, right)));
        dueOrder(check, w, w.choice(left, right, left));
        dueOrder(check, w, w.caught(w.raise(left), right, Writer.ANY));
    }

    private static void dueOrder(Check check, Writer w, int expression) {
        w.runOf(expression, 0, 0);
        check.due("told(4) of expression " + expression, w.x.told(4), 2);
        check.due("note(1) of expression " + expression, w.x.note(1), 1);
        check.due("note(0) of expression " + expression, w.x.note(0), 2);
    }

    private static void choices(Check check) {
        Writer w = new Writer();
        int good = w.number(42);
        int bad = w.failing();
        dueNumber(check, w, w.choice(w.number(-1), good, bad), 42);
        dueNumber(check, w, w.choice(w.number(MIN), good, bad), 42);
        dueNumber(check, w, w.choice(w.number(0), bad, good), 42);
        dueFault(check, w, w.choice(w.number(0), good, bad), Writer.EMPTY);
        check.due("told(1)", w.x.told(1), 4);
        int nothing = w.nothing();
        int pair = w.pair(nothing, nothing);
        due(check, w, w.choice(good, nothing, pair), 0);
        check.due("sort(0, 0): of b no NUMBER is wanted", w.x.sort(0L, 0), 0);
        due(check, w, w.choice(w.number(0), nothing, pair), 0);
        check.due("sort(0, 0): of c no NUMBER is wanted", w.x.sort(0L, 0), 2);
        int noted = w.noted(good);
        for (int wrong : new int[] {nothing, w.pair(good, good)}) {
            dueFault(check, w, w.choice(wrong, noted, noted), wrong == nothing ? Writer.EMPTY : Writer.CAST);
            check.due("told(4): neither b nor c is worked", w.x.told(4), 0);
        }
    }

    private static void likeness(Check check) {
        Writer w = new Writer();
        int nothing = w.nothing();
        int zero = w.number(0);
        int one = w.number(1);
        dueNumber(check, w, w.like(nothing, nothing), 1);
        dueNumber(check, w, w.like(nothing, zero), 0);
        dueNumber(check, w, w.like(zero, one), 0);
        dueNumber(check, w, w.like(one, w.number(1)), 1);
        int pair = w.pair(zero, one);
        dueNumber(check, w, w.like(pair, w.pair(zero, one)), 1);
        dueNumber(check, w, w.like(pair, w.pair(one, zero)), 0);
        dueNumber(check, w, w.like(pair, w.pair(zero, nothing)), 0);
        dueNumber(check, w, w.like(pair, zero), 0);
        dueNumber(check, w, w.like(pair, nothing), 0);
        dueNumber(check, w, w.like(zero, pair), 0);
        int deep = w.doubled(9, one, 5);
        dueNumber(check, w, w.like(deep, deep), 1);
        dueNumber(check, w, w.like(deep, w.doubled(9, w.minus(one, zero), 5)), 1);
        dueNumber(check, w, w.like(deep, w.doubled(9, zero, 5)), 0);
        deepLikeness(check);
    }

    /** Two VALUES with 2 to the 20th leaves each, of few PAIRS: comparing them still ends. */
    private static void deepLikeness(Check check) {
        Writer w = new Writer();
        int x = w.argument(0);
        w.x.body(1, w.pair(x, x));
        int four = x;
        for (int i = 0; i < 4; i++) {
            four = w.call(1, four, x);
        }
        w.x.body(2, four);
        int twenty = x;
        for (int i = 0; i < 5; i++) {
            twenty = w.call(2, twenty, x);
        }
        w.x.body(3, twenty);
        int like = w.like(w.call(3, x, x), w.call(3, x, x));
        dueNumber(check, w, like, 1);
        check.due("told(3)", w.x.told(3), 40);
        int unlike = w.like(w.call(3, x, x), w.call(3, w.argument(1), x));
        dueNumber(check, w, unlike, 0);
    }

    private static void catching(Check check) {
        Writer w = new Writer();
        int zero = w.number(0);
        int caught = w.number(77);
        w.x.body(1, w.plus(zero, w.call(1, zero, zero)));
        int[] failing = {
            w.failing(), w.head(zero), w.divided(zero, zero), w.raise(zero),
            w.plus(zero, w.call(1, zero, zero))
        };
        int[] faults = {0, 1, 2, 3, 4, 5, 9};
        for (int f = 0; f < failing.length; f++) {
            for (int fault : faults) {
                int tried = w.caught(failing[f], caught, fault);
                if (fault == f || fault == Writer.ANY) {
                    dueNumber(check, w, tried, 77);
                } else {
                    dueFault(check, w, tried, f);
                }
            }
        }
        dueNumber(check, w, w.caught(w.number(5), w.failing(), Writer.ANY), 5);
        dueFault(check, w, w.caught(failing[3], failing[2], Writer.ANY), Writer.ZERO);
        dueFault(check, w, w.caught(failing[3], failing[3], Writer.RAISED), Writer.RAISED);
        int inner = w.caught(failing[2], failing[3], Writer.ZERO);
        dueNumber(check, w, w.caught(inner, caught, Writer.RAISED), 77);
        dueFault(check, w, w.caught(inner, caught, Writer.ZERO), Writer.RAISED);
        dueNumber(check, w, w.plus(w.caught(failing[0], caught, Writer.ANY), caught), 154);
        dueNumber(check, w, w.plus(w.caught(w.number(5), failing[0], Writer.ANY), caught), 82);
        int through = w.caught(failing[2], caught, Writer.RAISED);
        dueFault(check, w, w.plus(through, failing[0]), Writer.ZERO);
        dueFault(check, w, w.lastly(through, w.noted(caught)), Writer.ZERO);
        check.due("note(0)", w.x.note(0), 77);
    }

    private static void doneInAnyCase(Check check) {
        Writer w = new Writer();
        int one = w.noted(w.number(1));
        int two = w.noted(w.number(2));
        int zero = w.divided(one, w.number(0));
        int raise = w.raise(two);
        dueNumber(check, w, w.lastly(one, two), 1);
        check.due("note(0)", w.x.note(0), 2);
        check.due("note(1)", w.x.note(1), 1);
        dueFault(check, w, w.lastly(zero, two), Writer.ZERO);
        check.due("note(0)", w.x.note(0), 2);
        dueFault(check, w, w.lastly(one, zero), Writer.ZERO);
        dueFault(check, w, w.lastly(zero, raise), Writer.RAISED);
        dueFault(check, w, w.lastly(raise, zero), Writer.ZERO);
        int caught = w.caught(raise, two, Writer.RAISED);
        dueFault(check, w, w.lastly(zero, caught), Writer.ZERO);
        dueNumber(check, w, w.lastly(w.lastly(one, two), caught), 1);
        int nested = w.lastly(w.lastly(zero, one), two);
        dueFault(check, w, nested, Writer.ZERO);
        check.due("note(0)", w.x.note(0), 2);
        check.due("note(1)", w.x.note(1), 1);
        dueNumber(check, w, w.caught(nested, one, Writer.ZERO), 1);
        int kept = w.lastly(w.raise(w.number(5)), w.caught(w.raise(w.number(8)), one, Writer.ANY));
        dueFault(check, w, kept, Writer.RAISED);
        check.due("told(6)", w.x.told(6), 5);
    }

    private static void callsWithoutBody(Check check) {
        Writer w = new Writer();
        int noted = w.noted(w.number(4));
        dueFault(check, w, w.call(5, noted, noted), Writer.EMPTY);
        check.due("told(4)", w.x.told(4), 2);
        check.due("told(5)", w.x.told(5), 1);
        dueFault(check, w, w.call(5, noted, w.raise(noted)), Writer.RAISED);
        w.x.room(1);
        dueFault(check, w, w.plus(w.call(5, noted, noted), noted), Writer.EMPTY);
        w.x.body(5, noted);
        dueFault(check, w, w.plus(w.call(5, noted, noted), noted), Writer.DEEP);
        check.due("told(4): b, c are worked before it is too deep", w.x.told(4), 2);
        dueFault(check, w, w.plus(w.call(5, noted, w.raise(noted)), noted), Writer.RAISED);
        dueFault(check, w, w.plus(w.call(5, w.raise(noted), noted), noted), Writer.RAISED);
        dueNumber(check, w, w.call(5, noted, noted), 4);
    }

    /** In ROOM 1 only a CALL in the LAST PLACE is not too deep. */
    private static void lastPlaces(Check check) {
        Writer w = new Writer();
        int one = w.number(1);
        int zero = w.number(0);
        int raise = w.raise(one);
        w.x.room(1);
        w.x.body(1, w.number(9));
        int call = w.call(1, zero, zero);
        dueNumber(check, w, call, 9);
        dueNumber(check, w, w.choice(one, call, zero), 9);
        dueNumber(check, w, w.choice(zero, one, call), 9);
        dueNumber(check, w, w.caught(raise, call, Writer.ANY), 9);
        dueNumber(check, w, w.choice(one, w.caught(raise, w.choice(zero, zero, call), 3), zero), 9);
        check.due("told(5)", w.x.told(5), 2);
        check.due("told(2)", w.x.told(2), 1);
        int choice = w.choice(one, call, zero);
        int[] others = {
            w.choice(call, one, one), w.caught(call, one, Writer.ZERO), w.lastly(call, one),
            w.lastly(one, call), w.pair(call, one), w.pair(one, call), w.isPair(call),
            w.noted(call), w.raise(call), w.head(call), w.tail(call), w.like(one, call),
            w.call(1, call, one), w.call(1, one, call), w.plus(one, choice),
            w.lastly(choice, one), w.caught(choice, one, Writer.ZERO),
            w.isPair(w.caught(raise, call, Writer.ANY))
        };
        for (int other : others) {
            dueFault(check, w, other, Writer.DEEP);
        }
    }

    private static void argumentsOfCalls(Check check) {
        Writer w = new Writer();
        int x = w.argument(0);
        int y = w.argument(1);
        int difference = w.minus(x, y);
        w.x.body(1, difference);
        dueNumber(check, w, w.call(1, y, x), -3);
        dueNumber(check, w, w.minus(w.call(1, y, x), x), -9);
        dueNumber(check, w, w.plus(w.call(1, w.call(1, x, y), w.call(1, y, x)), difference), 9);
        w.x.body(2, w.call(1, y, x));
        dueNumber(check, w, w.minus(w.call(2, x, y), x), -9);
        w.x.body(3, w.raise(x));
        dueNumber(check, w, w.caught(w.call(3, y, y), difference, Writer.RAISED), 3);
        int pair = w.pair(x, w.nothing());
        w.x.body(4, w.head(x));
        dueNumber(check, w, w.call(4, pair, x), 6);
        dueFault(check, w, w.call(4, w.tail(pair), x), Writer.EMPTY);
    }

    /** A CALL that FAILED is not under way any more. */
    private static void roomGivenBack(Check check) {
        Writer w = new Writer();
        int x = w.argument(0);
        int zero = w.number(0);
        w.x.body(1, w.plus(w.call(2, x, x), zero));
        w.x.body(2, w.raise(x));
        int caught = w.caught(w.call(1, x, x), zero, Writer.ANY);
        int often = w.plus(w.plus(caught, caught), w.plus(caught, caught));
        w.x.room(3);
        dueNumber(check, w, often, 0);
        check.due("told(2)", w.x.told(2), 3);
        check.due("told(5)", w.x.told(5), 9);
        w.x.room(2);
        dueNumber(check, w, often, 0);
        check.due("told(2)", w.x.told(2), 2);
        check.due("told(5)", w.x.told(5), 5);
    }

    /** As many EXPRESSIONS are being worked at once as ROOM and HEIGHT let there be. */
    private static void deepestWork(Check check) {
        Writer w = new Writer();
        int zero = w.number(0);
        w.x.room(20);
        int deepest = w.call(0, zero, zero);
        int caught = w.caught(deepest, w.noted(zero), Writer.DEEP);
        for (int i = 0; i < 6; i++) {
            deepest = w.lastly(deepest, zero);
        }
        dueFault(check, w, deepest, Writer.DEEP);
        check.due("told(1)", w.x.told(1), 20 * 15);
        check.due("told(2)", w.x.told(2), 20);
        for (int i = 0; i < 5; i++) {
            caught = w.isPair(caught);
        }
        dueNumber(check, w, caught, 0);
        check.due("told(1)", w.x.told(1), 20 * 9 + 2);
        check.due("told(4)", w.x.told(4), 1);
    }

    private static void spentRuns(Check check) {
        Writer w = new Writer();
        int zero = w.number(0);
        int noted = w.noted(w.argument(0));
        w.x.body(1, w.call(1, zero, zero));
        int endless = w.call(1, zero, zero);
        due(check, w, endless, 7);
        check.due("told(1)", w.x.told(1), 300);
        due(check, w, w.caught(endless, noted, Writer.ANY), 7);
        due(check, w, w.lastly(w.isPair(endless), noted), 7);
        check.due("told(4)", w.x.told(4), 0);
        check.due("told(8)", w.x.told(8), 0);
        exactSteps(check);
    }

    /** 300 STEPS are worked to their end, 301 are not. */
    private static void exactSteps(Check check) {
        Writer w = new Writer();
        int zero = w.number(0);
        w.x.body(1, w.doubled(2, zero, 7));
        w.x.body(2, w.doubled(2, zero, 4));
        int top = w.plus(w.call(1, zero, zero), w.call(2, zero, zero));
        top = w.lastly(top, w.plus(zero, zero));
        for (int steps = 297; steps <= 300; steps++) {
            due(check, w, top, 0);
            check.due("told(1)", w.x.told(1), steps);
            top = w.isPair(top);
        }
        due(check, w, top, 7);
        check.due("told(1)", w.x.told(1), 300);
    }

    private static void fullOfPairs(Check check) {
        Writer w = new Writer();
        int zero = w.number(0);
        int sixtyThree = w.doubled(9, zero, 6);
        int thirtyOne = sixtyThree - 1;
        int three = sixtyThree - 4;
        int one = sixtyThree - 5;
        w.x.body(1, w.like(sixtyThree, thirtyOne));
        int toHundred = w.like(w.call(1, zero, zero), w.like(three, w.like(three, zero)));
        due(check, w, toHundred, 0);
        check.due("told(3)", w.x.told(3), 100);
        int beyond = w.like(toHundred, one);
        dueFault(check, w, beyond, Writer.FULL);
        check.due("told(3)", w.x.told(3), 100);
        dueFault(check, w, w.caught(beyond, zero, Writer.DEEP), Writer.FULL);
        dueNumber(check, w, w.caught(beyond, zero, Writer.FULL), 0);
        dueNumber(check, w, w.caught(beyond, zero, Writer.ANY), 0);
        due(check, w, toHundred, 0);
    }

    private static void fullOfFailures(Check check) {
        Writer w = new Writer();
        int bad = w.failing();
        w.x.body(1, w.doubled(16, bad, 6));
        for (int i = 0; i < 31; i++) {
            check.due("run(1, 0, 0)", w.x.run(1, 0, 0), 1);
        }
        check.due("told(8)", w.x.told(8), 31 * 64);
        w.x.body(2, w.caught(bad, w.number(3), Writer.EMPTY));
        for (int i = 0; i < 15; i++) {
            check.due("run(2, 0, 0)", w.x.run(2, 0, 0), 0);
        }
        check.due("told(8)", w.x.told(8), 1999);
        check.due("run(1, 0, 0)", w.x.run(1, 0, 0), 1);
        check.due("told(8)", w.x.told(8), 1999 + 64);
        check.due("run(2, 0, 0)", w.x.run(2, 0, 0), DeepStacks.FULL);
        check.due("run(3, 0, 0)", w.x.run(3, 0, 0), DeepStacks.UNKNOWN);
        check.due("told(1)", w.x.told(1), 191);
        fullAtTheBound(check);
    }

    private static void fullAtTheBound(Check check) {
        Writer w = new Writer();
        w.x.body(1, w.doubled(16, w.failing(), 4));
        for (int i = 0; i < 125; i++) {
            check.due("run(1, 0, 0)", w.x.run(1, 0, 0), 1);
        }
        check.due("told(8)", w.x.told(8), 2000);
        check.due("run(1, 0, 0)", w.x.run(1, 0, 0), DeepStacks.FULL);
        check.due("told(0)", w.x.told(0), 1);
        check.due("run(6, 0, 0)", w.x.run(6, 0, 0), DeepStacks.UNKNOWN);
    }
}
