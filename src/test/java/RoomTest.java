/** Promise 4: room. */
final class RoomTest {
    public static void main(String[] args) {
        Check check = new Check();
        answers(check);
        for (int n = 1; n <= 20; n++) {
            depthThatFits(check, n);
        }
        check.end();
    }

    private static void answers(Check check) {
        DeepStacks x = new DeepStacks();
        for (int n : new int[] {0, 21, -1, Integer.MIN_VALUE, Integer.MAX_VALUE}) {
            check.due("room(" + n + ")", x.room(n), DeepStacks.OUTSIDE);
        }
        check.due("room(1)", x.room(1), 10);
        check.due("room(0)", x.room(0), DeepStacks.OUTSIDE);
        check.due("room(20)", x.room(20), 1);
        check.due("told(7)", x.told(7), 20);
        check.due("room(20)", x.room(20), 20);
        check.due("room(21)", x.room(21), DeepStacks.OUTSIDE);
        check.due("room(7)", x.room(7), 20);
        check.due("told(7)", x.told(7), 7);
    }

    /** A FUNCTION that calls itself x times, none of them in the LAST PLACE. */
    private static void depthThatFits(Check check, int n) {
        Writer w = new Writer();
        int x = w.argument(0);
        int one = w.number(1);
        int deeper = w.plus(one, w.call(0, w.minus(x, one), one));
        int body = w.choice(x, deeper, w.number(0));
        w.x.room(n);
        check.due("run in room " + n, w.runOf(body, n - 1, 0), 0);
        check.due("number(0, 0)", w.x.number(0L, 0), n - 1);
        check.due("told(2)", w.x.told(2), n);
        check.due("run too deep for room " + n, w.runOf(body, n, 0), 1 + Writer.DEEP);
        check.due("told(2)", w.x.told(2), n);
        check.due("told(5)", w.x.told(5), n);
        check.due("told(8)", w.x.told(8), 1);
    }
}
