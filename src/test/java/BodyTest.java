/** Promise 3: body. */
final class BodyTest {
    public static void main(String[] args) {
        Check check = new Check();
        DeepStacks x = new DeepStacks();
        x.expression(0, 11, 0, 0);
        x.expression(0, 22, 0, 0);
        refusals(check, x);
        for (int function = 0; function <= 5; function++) {
            String of = "body(" + function;
            check.due(of + ", 0)", x.body(function, 0), DeepStacks.NONE);
            check.due(of + ", 1)", x.body(function, 1), 0);
            check.due(of + ", 1)", x.body(function, 1), 1);
            refusals(check, x);
            check.due(of + ", 0) behind refusals", x.body(function, 0), 1);
        }
        workedBody(check, x);
        eachFunctionHasItsOwn(check);
        check.end();
    }

    private static void refusals(Check check, DeepStacks x) {
        for (int named : new int[] {-1, 6, Integer.MIN_VALUE, Integer.MAX_VALUE}) {
            check.due("body(" + named + ", 0)", x.body(named, 0), DeepStacks.UNKNOWN);
        }
        for (int named : new int[] {-1, 2, 100, Integer.MIN_VALUE, Integer.MAX_VALUE}) {
            check.due("body(0, " + named + ")", x.body(0, named), DeepStacks.UNKNOWN);
        }
    }

    private static void workedBody(Check check, DeepStacks x) {
        x.body(3, 1);
        x.run(3, 0, 0);
        check.due("number(0, 0)", x.number(0L, 0), 22);
        x.body(3, 0);
        check.due("number(0, 0) of the latest RUN", x.number(0L, 0), 22);
        x.run(3, 0, 0);
        check.due("number(0, 0)", x.number(0L, 0), 11);
    }

    private static void eachFunctionHasItsOwn(Check check) {
        DeepStacks x = new DeepStacks();
        for (int function = 0; function <= 5; function++) {
            check.due("run(" + function + ", 0, 0)", x.run(function, 0, 0), DeepStacks.UNKNOWN);
            check.due("expression", x.expression(0, 100 + function, 0, 0), function);
            check.due("body(" + function + ", ..)", x.body(function, function), DeepStacks.NONE);
            for (int called = 0; called <= function; called++) {
                check.due("run(" + called + ", 0, 0)", x.run(called, 0, 0), 0);
                check.due("number(0, 0)", x.number(0L, 0), 100 + called);
            }
        }
        check.due("run(6, 0, 0)", x.run(6, 0, 0), DeepStacks.UNKNOWN);
        check.due("run(-1, 0, 0)", x.run(-1, 0, 0), DeepStacks.UNKNOWN);
    }
}
