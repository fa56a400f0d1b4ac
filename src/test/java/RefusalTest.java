import java.util.ArrayList;
import java.util.List;

/**
 * "REFUSALS, of several the first one: UNKNOWN .., OUTSIDE .., FULL ..", for calls with more than
 * one reason to be refused; "What is refused changes nothing", for every call that can be refused.
 */
final class RefusalTest {
    private static final int UNKNOWN = DeepStacks.UNKNOWN, OUTSIDE = DeepStacks.OUTSIDE;
    private static final int FULL = DeepStacks.FULL;
    private static final int MIN = Integer.MIN_VALUE, MAX = Integer.MAX_VALUE;
    /** The greatest HEIGHT stands on the EXPRESSION with this number. */
    private static final int HIGH = 7;

    private interface Call {
        long on(DeepStacks x);
    }

    public static void main(String[] args) {
        Check check = new Check();
        severalReasonsForAnExpression(check);
        severalReasonsWhenFull(check);
        severalReasonsForARun(check);
        severalReasonsOfPlaces(check);
        refusedChangesNothing(check);
        refusedWhenFullChangesNothing(check);
        check.end();
    }

    /** EXPRESSIONS 0 .. 7 with the HEIGHTS 1 .. 8. */
    private static DeepStacks withHeights() {
        DeepStacks x = new DeepStacks();
        x.expression(12, 0, 0, 0);
        for (int i = 1; i <= HIGH; i++) {
            x.expression(13, i - 1, 0, 0);
        }
        return x;
    }

    private static void due(Check check, DeepStacks x, int want, int... given) {
        String call = "expression(" + given[0] + ", " + given[1] + ", " + given[2] + ", " + given[3] + ")";
        check.due(call, x.expression(given[0], given[1], given[2], given[3]), want);
    }

    private static void severalReasonsForAnExpression(Check check) {
        DeepStacks x = withHeights();
        int unknown = HIGH + 1;
        due(check, x, UNKNOWN, 15, unknown, HIGH, 6);
        due(check, x, UNKNOWN, 15, HIGH, unknown, -1);
        due(check, x, UNKNOWN, 15, -1, 0, 6);
        due(check, x, UNKNOWN, 15, HIGH, -1, 9);
        due(check, x, OUTSIDE, 15, HIGH, 0, 6);
        due(check, x, OUTSIDE, 15, 0, HIGH, 8);
        due(check, x, FULL, 15, 0, HIGH, 5);
        due(check, x, FULL, 15, HIGH, 0, 9);
        due(check, x, UNKNOWN, 2, HIGH, unknown, 0);
        due(check, x, UNKNOWN, 2, unknown, HIGH, 0);
        due(check, x, UNKNOWN, 7, HIGH, 0, unknown);
        due(check, x, UNKNOWN, 8, 6, HIGH, HIGH);
        due(check, x, UNKNOWN, 8, 5, HIGH, unknown);
        due(check, x, UNKNOWN, 8, -1, unknown, HIGH);
        due(check, x, FULL, 8, 5, HIGH, 0);
        due(check, x, FULL, 8, 0, 0, HIGH);
        for (int kind : new int[] {-1, 19, MIN, MAX}) {
            due(check, x, OUTSIDE, kind, unknown, HIGH, 6);
            due(check, x, OUTSIDE, kind, HIGH, HIGH, HIGH);
        }
        due(check, x, OUTSIDE, 1, unknown, unknown, unknown);
        due(check, x, unknown, 15, HIGH - 1, HIGH - 1, 5);
    }

    /** 100 EXPRESSIONS, of HEIGHTS up to 8. */
    private static DeepStacks withAll() {
        DeepStacks x = withHeights();
        for (int i = HIGH + 1; i < 100; i++) {
            x.expression(12, 0, 0, 0);
        }
        return x;
    }

    private static void severalReasonsWhenFull(Check check) {
        DeepStacks x = withAll();
        due(check, x, UNKNOWN, 15, 100, HIGH, 6);
        due(check, x, UNKNOWN, 15, HIGH, 100, 9);
        due(check, x, OUTSIDE, 15, 0, HIGH, 6);
        due(check, x, OUTSIDE, 15, 0, 0, -1);
        due(check, x, FULL, 15, 0, HIGH, 5);
        due(check, x, FULL, 15, 0, 0, 5);
        due(check, x, UNKNOWN, 8, 6, 0, 0);
        due(check, x, UNKNOWN, 8, 6, HIGH, 100);
        due(check, x, UNKNOWN, 8, 0, 99, 100);
        due(check, x, FULL, 8, 5, 99, 99);
        due(check, x, OUTSIDE, 1, 2, 0, 0);
        due(check, x, OUTSIDE, 1, -1, 100, 100);
        due(check, x, FULL, 1, 1, 100, 100);
        due(check, x, OUTSIDE, 19, 100, 100, 100);
        due(check, x, OUTSIDE, -1, 0, 0, 0);
        due(check, x, FULL, 0, MIN, -1, 100);
        due(check, x, FULL, 12, 100, -1, MAX);
        due(check, x, UNKNOWN, 18, 100, 0, 0);
        due(check, x, FULL, 18, 99, 100, -1);
        check.due("height(99)", x.height(99), 1);
        check.due("height(100)", x.height(100), UNKNOWN);
    }

    /** In whose RUNS 2000 EXPRESSIONS FAILED; FUNCTIONS 0, 1 have BODIES. */
    private static DeepStacks withFailures() {
        Writer w = new Writer();
        w.x.body(1, w.doubled(16, w.failing(), 4));
        w.x.body(0, w.noted(w.argument(0)));
        for (int i = 0; i < 125; i++) {
            w.x.run(1, 0, 0);
        }
        return w.x;
    }

    private static void severalReasonsForARun(Check check) {
        DeepStacks x = withFailures();
        check.due("told(8)", x.told(8), 2000);
        for (int function : new int[] {-1, 2, 5, 6, MIN, MAX}) {
            check.due("run(" + function + ", 0, 0)", x.run(function, 0, 0), UNKNOWN);
        }
        check.due("run(0, 0, 0)", x.run(0, 0, 0), FULL);
        check.due("run(1, 0, 0)", x.run(1, 0, 0), FULL);
        for (int function : new int[] {-1, 6}) {
            check.due("body(" + function + ", 100)", x.body(function, 100), UNKNOWN);
        }
    }

    /** A wrong n comes before a place that is not there, or is none of a NUMBER. */
    private static void severalReasonsOfPlaces(Check check) {
        Writer w = new Writer();
        int[] made = {w.pair(w.number(1), w.number(2)), w.nothing(), w.failing(), w.number(5)};
        for (int i = -1; i < made.length; i++) {
            if (i >= 0) {
                w.runOf(made[i], 0, 0);
            }
            for (int n : new int[] {-1, 61, MIN, MAX}) {
                check.due("sort(1, " + n + ")", w.x.sort(1L, n), OUTSIDE);
                check.dueNoNumber(w.x, 1L, n, IllegalArgumentException.class);
            }
        }
    }

    /** Two EXPRESSIONS for each FUNCTION that has a BODY, and a RUN of which there is much to tell. */
    private static DeepStacks used() {
        Writer w = new Writer();
        int x = w.argument(0);
        int pair = w.pair(w.noted(x), w.noted(w.argument(1)));
        w.x.body(1, pair);
        w.x.body(0, w.lastly(w.call(1, x, x), w.caught(w.failing(), w.noted(pair), Writer.EMPTY)));
        w.x.body(2, w.caught(w.noted(w.call(1, x, x)), w.call(1, x, x), Writer.ANY));
        w.x.room(13);
        w.x.run(0, 3, 4);
        w.x.run(2, 5, 6);
        return w.x;
    }

    /** All that can be asked of an object; what this changes in it is the same for all of them. */
    private static List<Long> allTold(DeepStacks x) {
        List<Long> all = new ArrayList<>();
        for (int what = 0; what <= 8; what++) {
            all.add((long) x.told(what));
        }
        for (int i = 0; i <= 12; i++) {
            int note = i;
            all.add(orThrown(y -> y.note(note), x));
        }
        for (int path = 0; path < 4; path++) {
            for (int n = 0; n <= 2; n++) {
                long way = path;
                int steps = n;
                all.add((long) x.sort(way, steps));
                all.add(orThrown(y -> y.number(way, steps), x));
            }
        }
        all.add((long) x.length());
        for (int expression = 0; expression <= 100; expression++) {
            all.add((long) x.height(expression));
        }
        all.add((long) x.expression(12, 0, 0, 0));
        all.add((long) x.room(2));
        for (int function = 0; function <= 5; function++) {
            all.add((long) x.run(function, 7, 8));
            all.add((long) x.told(1));
            all.add((long) x.body(function, 0));
        }
        return all;
    }

    private static long orThrown(Call call, DeepStacks x) {
        try {
            return call.on(x);
        } catch (RuntimeException e) {
            return (1L << 40) + e.getClass().getName().length();
        }
    }

    private static void refusedChangesNothing(Check check) {
        Call[] refused = {
            x -> x.expression(-1, 0, 0, 0), x -> x.expression(19, 0, 0, 0),
            x -> x.expression(1, 2, 0, 0), x -> x.expression(2, 0, 99, 0),
            x -> x.expression(8, 6, 0, 0), x -> x.expression(15, 0, 0, 6),
            x -> x.body(-1, 1), x -> x.body(6, 1), x -> x.body(0, -1), x -> x.body(3, 99),
            x -> x.room(0), x -> x.room(21), x -> x.room(-1), x -> x.room(MAX),
            x -> x.run(-1, 1, 2), x -> x.run(3, 1, 2), x -> x.run(6, 1, 2),
            x -> x.told(-1), x -> x.told(9), x -> x.height(-1), x -> x.height(99),
            x -> x.sort(0L, -1), x -> x.sort(0L, 61)
        };
        List<Long> want = allTold(used());
        for (int i = 0; i < refused.length; i++) {
            DeepStacks x = used();
            long answer = refused[i].on(x);
            check.due("refusal " + i, answer == UNKNOWN || answer == OUTSIDE ? 1 : 0, 1);
            check.due("refusal " + i + " changed nothing", allTold(x).equals(want) ? 1 : 0, 1);
        }
        Call[] thrown = {
            x -> x.note(-1), x -> x.note(12), x -> x.number(0L, 0), x -> x.number(0L, 2),
            x -> x.number(0L, -1), x -> x.number(0L, 61)
        };
        for (int i = 0; i < thrown.length; i++) {
            DeepStacks x = used();
            check.due("throw " + i, orThrown(thrown[i], x) > MAX ? 1 : 0, 1);
            check.due("throw " + i + " changed nothing", allTold(x).equals(want) ? 1 : 0, 1);
        }
    }

    private static void refusedWhenFullChangesNothing(Check check) {
        List<Long> want = allTold(withAll());
        DeepStacks x = withAll();
        due(check, x, FULL, 12, 0, 0, 0);
        due(check, x, FULL, 13, HIGH, 0, 0);
        check.due("FULL of EXPRESSIONS changed nothing", allTold(x).equals(want) ? 1 : 0, 1);
        want = allTold(withHeights());
        x = withHeights();
        due(check, x, FULL, 13, HIGH, 0, 0);
        due(check, x, FULL, 15, 0, HIGH, 9);
        check.due("FULL of HEIGHT changed nothing", allTold(x).equals(want) ? 1 : 0, 1);
        want = allTold(withFailures());
        x = withFailures();
        check.due("run(0, 9, 9)", x.run(0, 9, 9), FULL);
        check.due("run(1, 9, 9)", x.run(1, 9, 9), FULL);
        check.due("FULL of FAILURES changed nothing", allTold(x).equals(want) ? 1 : 0, 1);
    }
}
