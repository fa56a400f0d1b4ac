/** "NUMBERS (ints, which wrap)": at both ends of the ints, and one before them. */
final class WrapTest {
    private static final int MIN = -2147483648, MAX = 2147483647;
    private static final int PLUS = 2, MINUS = 3, TIMES = 4, DIVIDED = 5, BELOW = 6;
    private static final int[][] DUE = {
        {PLUS, MAX, 0, MAX}, {PLUS, MAX - 1, 1, MAX}, {PLUS, MAX, 1, MIN}, {PLUS, 1, MAX, MIN},
        {PLUS, MAX, MAX, -2}, {PLUS, MIN + 1, -1, MIN}, {PLUS, MIN, -1, MAX}, {PLUS, MIN, MIN, 0},
        {PLUS, MIN, MAX, -1},
        {MINUS, MIN, 0, MIN}, {MINUS, MIN + 1, 1, MIN}, {MINUS, MIN, 1, MAX}, {MINUS, MIN, MAX, 1},
        {MINUS, MAX - 1, -1, MAX}, {MINUS, MAX, -1, MIN}, {MINUS, MAX, MIN, -1},
        {MINUS, -1, MIN, MAX}, {MINUS, 0, MIN, MIN}, {MINUS, 0, MAX, MIN + 1},
        {TIMES, 46340, 46340, 2147395600}, {TIMES, 46341, 46341, -2147479015},
        {TIMES, 1073741823, 2, MAX - 1}, {TIMES, 1073741824, 2, MIN}, {TIMES, -1073741824, 2, MIN},
        {TIMES, -1073741825, 2, MAX - 1}, {TIMES, MAX, -1, MIN + 1}, {TIMES, MIN, -1, MIN},
        {TIMES, MAX, MAX, 1}, {TIMES, MIN, MIN, 0}, {TIMES, 65536, 65536, 0},
        {DIVIDED, MIN, 1, MIN}, {DIVIDED, MIN + 1, -1, MAX}, {DIVIDED, MIN, -1, MIN},
        {DIVIDED, MAX, -1, MIN + 1}, {DIVIDED, MIN, MAX, -1}, {DIVIDED, MAX, MIN, 0},
        {DIVIDED, MIN, MIN, 1}, {DIVIDED, -7, 2, -3}, {DIVIDED, 7, -2, -3}, {DIVIDED, 0, MIN, 0},
        {BELOW, MIN, MAX, 1}, {BELOW, MAX, MIN, 0}, {BELOW, MIN, MIN + 1, 1}, {BELOW, MIN, MIN, 0},
        {BELOW, MAX - 1, MAX, 1}, {BELOW, MAX, MAX, 0}, {BELOW, -1, 0, 1}, {BELOW, 0, -1, 0}
    };

    public static void main(String[] args) {
        Check check = new Check();
        reckoned(check);
        byZero(check);
        endsEverywhere(check);
        check.end();
    }

    /** Both as ARGUMENTS and as NUMBERS that the program holds. */
    private static void reckoned(Check check) {
        for (int[] row : DUE) {
            String call = row[1] + " and " + row[2] + " by kind " + row[0];
            Writer w = new Writer();
            int ofArguments = w.x.expression(row[0], w.argument(0), w.argument(1), 0);
            check.due(call, w.runOf(ofArguments, row[1], row[2]), 0);
            check.due(call + ", number(0, 0)", w.x.number(0L, 0), row[3]);
            int ofNumbers = w.x.expression(row[0], w.number(row[1]), w.number(row[2]), 0);
            check.due(call, w.runOf(ofNumbers, 0, 0), 0);
            check.due(call + ", number(0, 0)", w.x.number(0L, 0), row[3]);
        }
    }

    /** "2 ZERO: 5 by 0"; by what is next to 0 it does not FAIL. */
    private static void byZero(Check check) {
        Writer w = new Writer();
        w.x.body(0, w.divided(w.argument(0), w.argument(1)));
        for (int a : new int[] {MIN, -1, 0, 1, MAX}) {
            check.due("run of " + a + " / 0", w.x.run(0, a, 0), 1 + Writer.ZERO);
            check.due("run of " + a + " / 1", w.x.run(0, a, 1), 0);
            check.due("number(0, 0)", w.x.number(0L, 0), a);
            check.due("run of " + a + " / -1", w.x.run(0, a, -1), 0);
            check.due("number(0, 0)", w.x.number(0L, 0), a == MIN ? MIN : -a);
        }
    }

    /** The ends of the ints are NUMBERS like any other, wherever one is wanted or told. */
    private static void endsEverywhere(Check check) {
        for (int end : new int[] {MIN, MAX, -1}) {
            Writer w = new Writer();
            int number = w.number(end);
            check.due("choice of " + end, w.runOf(w.choice(number, w.number(4), w.number(5)), 0, 0), 0);
            check.due("number(0, 0)", w.x.number(0L, 0), 4);
            check.due("noted " + end, w.runOf(w.noted(number), 0, 0), 0);
            check.due("note(0)", w.x.note(0), end);
            check.due("number(0, 0)", w.x.number(0L, 0), end);
            check.due("raised " + end, w.runOf(w.raise(number), 0, 0), 1 + Writer.RAISED);
            check.due("told(6)", w.x.told(6), end);
            check.due("like " + end, w.runOf(w.like(number, w.argument(0)), end, 0), 0);
            check.due("number(0, 0)", w.x.number(0L, 0), 1);
            check.due("unlike " + end, w.runOf(w.like(number, w.argument(0)), ~end, 0), 0);
            check.due("number(0, 0)", w.x.number(0L, 0), 0);
        }
    }
}
