/** Promise 1: what a new object answers to each call. */
final class NewObjectTest {
    public static void main(String[] args) {
        Check check = new Check();
        answersOfANewObject(check);
        firstChangesOfANewObject(check);
        objectsAreApart(check);
        check.end();
    }

    private static void answersOfANewObject(Check check) {
        DeepStacks x = new DeepStacks();
        nothingTold(check, x, 10);
        for (int function = -1; function <= 6; function++) {
            check.due("run(" + function + ", 1, 2)", x.run(function, 1, 2), DeepStacks.UNKNOWN);
            check.due("body(" + function + ", 0)", x.body(function, 0), DeepStacks.UNKNOWN);
        }
        check.due("height(0)", x.height(0), DeepStacks.UNKNOWN);
        check.due("sort(0, 0)", x.sort(0L, 0), DeepStacks.NONE);
        check.due("sort(5, 60)", x.sort(5L, 60), DeepStacks.NONE);
        check.due("sort(0, 61)", x.sort(0L, 61), DeepStacks.OUTSIDE);
        check.due("length()", x.length(), 0);
        check.dueNoNote(x, 0);
        check.dueNoNumber(x, 0L, 0, NullPointerException.class);
        check.dueNoNumber(x, 0L, -1, IllegalArgumentException.class);
        nothingTold(check, x, 10);
        x.room(20);
        nothingTold(check, x, 20);
        x.room(21);
        x.expression(12, 0, 0, 0);
        x.body(0, 0);
        x.run(1, 3, 4);
        nothingTold(check, x, 20);
    }

    /** "Of the latest RUN (0 before any)"; but there is a ROOM from the first. */
    private static void nothingTold(Check check, DeepStacks x, int room) {
        int[] want = {0, 0, 0, 0, 0, 0, 0, room, 0};
        for (int what = 0; what <= 8; what++) {
            check.due("told(" + what + ") before any RUN", x.told(what), want[what]);
        }
        check.due("told(-1)", x.told(-1), DeepStacks.OUTSIDE);
        check.due("told(9)", x.told(9), DeepStacks.OUTSIDE);
    }

    private static void firstChangesOfANewObject(Check check) {
        DeepStacks x = new DeepStacks();
        check.due("room(4)", x.room(4), 10);
        check.due("expression(12, 0, 0, 0)", x.expression(12, 0, 0, 0), 0);
        for (int function = 0; function <= 5; function++) {
            check.due("body(" + function + ", 0)", x.body(function, 0), DeepStacks.NONE);
        }
    }

    private static void objectsAreApart(Check check) {
        Writer one = new Writer();
        one.runOf(one.noted(one.argument(0)), 3, 4);
        one.x.room(5);
        DeepStacks other = new DeepStacks();
        check.due("told(1)", other.told(1), 0);
        check.due("told(7)", other.told(7), 10);
        check.due("run(0, 0, 0)", other.run(0, 0, 0), DeepStacks.UNKNOWN);
        check.dueNoNote(other, 0);
    }
}
