/**
 * "OUTSIDE (n 0 .. 60)" and "n is not 0 .. 60": paths of 60 steps, to what stands at their end and
 * to what is one PAIR too near or too far; bits of the path beyond n are not looked at.
 */
final class PathTest {
    /** PAIRS that one CALL of FUNCTION 1 puts round what it is given; 12 CALLS make 60. */
    private static final int A_CALL = 5, CALLS = 12;
    /** The ways, from without, through the PAIRS of one CALL: HEADS, TAILS, and both mixed. */
    private static final int[] WAYS = {0, 31, 0b01101};
    private static final int NONE = DeepStacks.NONE, OUTSIDE = DeepStacks.OUTSIDE;

    private static final Class<NullPointerException> NO_NUMBER = NullPointerException.class;
    private static final Class<ClassCastException> A_PAIR = ClassCastException.class;
    private static final Class<IllegalArgumentException> NO_PATH = IllegalArgumentException.class;

    public static void main(String[] args) {
        Check check = new Check();
        for (int way : WAYS) {
            endOfSixtySteps(check, way);
            nothingAtTheEnd(check, way);
            oneTooNear(check, way);
            oneTooFar(check, way);
            everyStep(check, way);
        }
        noSteps(check);
        check.end();
    }

    /** FUNCTION 1 comes to 5 times x PAIRS round y. */
    private static Writer nested(int way) {
        Writer w = new Writer();
        int x = w.argument(0);
        int y = w.argument(1);
        int round = y;
        for (int i = A_CALL - 1; i >= 0; i--) {
            round = (way >> i & 1) == 0 ? w.pair(round, w.nothing()) : w.pair(w.nothing(), round);
        }
        w.x.body(1, w.choice(x, w.call(1, w.minus(x, w.number(1)), round), y));
        return w;
    }

    private static long pathOf(int way) {
        long path = 0;
        for (int i = 0; i < CALLS; i++) {
            path |= (long) way << i * A_CALL;
        }
        return path;
    }

    private static void dueSort(Check check, Writer w, long path, int n, int want) {
        check.due("sort(" + Long.toBinaryString(path) + ", " + n + ")", w.x.sort(path, n), want);
    }

    private static long[] withHigherBits(long path) {
        return new long[] {
            path, path | 1L << 60, path | 1L << 61, path | 1L << 62, path | 1L << 63, path | -1L << 60
        };
    }

    private static void endOfSixtySteps(Check check, int way) {
        Writer w = nested(way);
        check.due("run(1, 12, -8)", w.x.run(1, CALLS, -8), 0);
        check.due("told(3)", w.x.told(3), 60);
        for (long path : withHigherBits(pathOf(way))) {
            dueSort(check, w, path, 60, 1);
            check.due("number(" + path + ", 60)", w.x.number(path, 60), -8);
            dueSort(check, w, path, 59, 2);
            check.dueNoNumber(w.x, path, 59, A_PAIR);
            dueSort(check, w, path, 61, OUTSIDE);
            check.dueNoNumber(w.x, path, 61, NO_PATH);
            dueSort(check, w, path, -1, OUTSIDE);
            check.dueNoNumber(w.x, path, -1, NO_PATH);
            long aside = path ^ 1L << 59;
            dueSort(check, w, aside, 60, 0);
            check.dueNoNumber(w.x, aside, 60, NO_NUMBER);
            long early = path ^ 1L << 58;
            dueSort(check, w, early, 60, NONE);
            check.dueNoNumber(w.x, early, 60, NO_NUMBER);
            dueSort(check, w, path ^ 1L, 60, NONE);
            dueSort(check, w, path ^ 1L, 1, 0);
        }
    }

    private static void nothingAtTheEnd(Check check, int way) {
        Writer w = nested(way);
        w.runOf(w.call(1, w.number(CALLS), w.nothing()), 0, 0);
        check.due("told(3)", w.x.told(3), 60);
        dueSort(check, w, pathOf(way), 60, 0);
        check.dueNoNumber(w.x, pathOf(way), 60, NO_NUMBER);
    }

    /** 59 PAIRS: behind 59 steps the NUMBER stands, behind 60 there is no such place. */
    private static void oneTooNear(Check check, int way) {
        Writer w = nested(way);
        int sixty = w.call(1, w.number(CALLS), w.argument(1));
        w.runOf((way & 1) == 0 ? w.head(sixty) : w.tail(sixty), 0, 4);
        for (long path : withHigherBits(pathOf(way))) {
            dueSort(check, w, path >>> 1, 59, 1);
            check.due("number(" + (path >>> 1) + ", 59)", w.x.number(path >>> 1, 59), 4);
            dueSort(check, w, path >>> 1, 60, NONE);
            check.dueNoNumber(w.x, path >>> 1, 60, NO_NUMBER);
        }
    }

    /** 61 PAIRS: behind 60 steps the last of them stands, and no path goes farther. */
    private static void oneTooFar(Check check, int way) {
        Writer w = nested(way);
        int inner = w.pair(w.argument(0), w.argument(1));
        w.runOf(w.call(1, w.number(CALLS), inner), 2, 4);
        check.due("told(3)", w.x.told(3), 61);
        for (long path : withHigherBits(pathOf(way))) {
            dueSort(check, w, path, 60, 2);
            check.dueNoNumber(w.x, path, 60, A_PAIR);
            dueSort(check, w, path, 61, OUTSIDE);
            check.dueNoNumber(w.x, path, 61, NO_PATH);
        }
    }

    private static void everyStep(Check check, int way) {
        Writer w = nested(way);
        w.x.run(1, CALLS, 6);
        for (int n = 0; n < 60; n++) {
            dueSort(check, w, pathOf(way), n, 2);
            dueSort(check, w, pathOf(way) ^ 1L << n, n + 1, 0);
        }
    }

    /** Behind no steps the VALUE itself stands, whatever the path. */
    private static void noSteps(Check check) {
        Writer w = new Writer();
        int[] made = {w.nothing(), w.argument(0), w.pair(w.argument(0), w.argument(1))};
        for (int sort = 0; sort < made.length; sort++) {
            w.runOf(made[sort], 6, 7);
            for (long path : new long[] {0L, 1L, -1L, Long.MIN_VALUE, Long.MAX_VALUE}) {
                dueSort(check, w, path, 0, sort);
            }
        }
        for (long path : new long[] {0L, 2L, 1L << 32, Long.MIN_VALUE, -2L}) {
            check.due("number(" + path + ", 1)", w.x.number(path, 1), 6);
            check.due("number(" + (path | 1L) + ", 1)", w.x.number(path | 1L, 1), 7);
        }
        w.runOf(made[1], 6, 7);
        check.due("number(-1, 0)", w.x.number(-1L, 0), 6);
        dueSort(check, w, 0L, 1, NONE);
        check.dueNoNumber(w.x, 0L, 1, NO_NUMBER);
    }
}
