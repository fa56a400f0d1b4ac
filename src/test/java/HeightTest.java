/** Promise 11: height. */
final class HeightTest {
    public static void main(String[] args) {
        Check check = new Check();
        Writer w = new Writer();
        int number = w.number(5);
        int argument = w.argument(1);
        int nothing = w.nothing();
        due(check, w, number, 1);
        due(check, w, argument, 1);
        due(check, w, nothing, 1);
        int sum = w.plus(number, argument);
        due(check, w, sum, 2);
        due(check, w, w.choice(number, argument, sum), 3);
        due(check, w, w.choice(number, sum, argument), 3);
        due(check, w, w.choice(sum, number, argument), 3);
        due(check, w, w.call(5, number, argument), 2);
        due(check, w, w.call(0, sum, argument), 3);
        due(check, w, w.call(0, number, sum), 3);
        due(check, w, w.caught(number, sum, 5), 3);
        int top = w.lastly(sum, number);
        for (int height = 3; height <= 8; height++) {
            due(check, w, top, height);
            top = height < 8 ? w.head(top) : top;
        }
        for (int named : new int[] {-1, top + 1, 100, Integer.MIN_VALUE, Integer.MAX_VALUE}) {
            check.due("height(" + named + ")", w.x.height(named), DeepStacks.UNKNOWN);
        }
        check.end();
    }

    private static void due(Check check, Writer w, int expression, int want) {
        check.due("height(" + expression + ")", w.x.height(expression), want);
    }
}
