/** "An object is used for at most 512 calls after it has been made": the last answers as the first. */
final class LastCallTest {
    private static final int CALLS_MOST = 512;

    public static void main(String[] args) {
        Check check = new Check();
        runsOnly(check);
        eachKindOfCall(check);
        check.end();
    }

    /** Each RUN goes as deep as it can, makes PAIRS at each depth, and FAILS. */
    private static void runsOnly(Check check) {
        DeepStacks x = new DeepStacks();
        int argument = x.expression(1, 0, 0, 0);
        int pair = x.expression(9, argument, argument, 0);
        int call = x.expression(8, 0, pair, pair);
        x.body(0, x.expression(18, call, 0, 0));
        x.room(20);
        for (int calls = 6; calls < CALLS_MOST - 1; calls++) {
            check.due("run, call " + (calls + 1), x.run(0, calls, 0), 1 + Writer.DEEP);
        }
        check.due("told(8), call 512", x.told(8), CALLS_MOST - 7);
    }

    private static void eachKindOfCall(Check check) {
        DeepStacks x = new DeepStacks();
        int argument = x.expression(1, 0, 0, 0);
        int noted = x.expression(18, argument, 0, 0);
        x.body(0, noted);
        int calls = 3;
        while (calls + 9 <= CALLS_MOST) {
            check.due("run(0, " + calls + ", 0)", x.run(0, calls, 0), 0);
            check.due("number(0, 0)", x.number(0L, 0), calls);
            check.due("note(0)", x.note(0), calls);
            check.due("told(1)", x.told(1), 2);
            check.due("length()", x.length(), 0);
            calls += 5;
        }
        check.due("expression(12, 0, 0, 0)", x.expression(12, 0, 0, 0), 2);
        check.due("height(1)", x.height(1), 2);
        check.due("body(0, 2)", x.body(0, 2), noted);
        check.due("run(0, 0, 0), call " + (calls + 4), x.run(0, 0, 0), 0);
        check.due("calls", calls + 4, CALLS_MOST);
    }
}
