/** Promise 7: note. */
final class NoteTest {
    public static void main(String[] args) {
        Check check = new Check();
        Writer w = new Writer();
        int x = w.argument(0);
        int one = w.number(1);
        w.x.body(1, w.choice(x, w.call(1, w.minus(w.noted(x), one), x), one));
        for (int times : new int[] {0, 1, 2, 11, 12, 13, 14, 25, 12, 1, 0}) {
            dueNotes(check, w.x, times);
        }
        wrongOnes(check);
        refusedRunsChangeNothing(check, w.x);
        check.end();
    }

    /** The RUN notes times, times - 1, .. 1. */
    private static void dueNotes(Check check, DeepStacks x, int times) {
        check.due("run(1, " + times + ", 0)", x.run(1, times, 0), 0);
        check.due("told(4)", x.told(4), times);
        int kept = Math.min(times, 12);
        for (int i = 0; i < kept; i++) {
            check.due("note(" + i + ") of " + times, x.note(i), i + 1);
        }
        for (int i : new int[] {kept, kept + 1, 12, -1, Integer.MIN_VALUE, Integer.MAX_VALUE}) {
            check.dueNoNote(x, i);
        }
    }

    /** What is no NUMBER is not NOTED; what was, stays so when the RUN FAILS or is SPENT. */
    private static void wrongOnes(Check check) {
        Writer w = new Writer();
        int five = w.noted(w.number(-5));
        w.runOf(w.noted(w.nothing()), 0, 0);
        check.dueNoNote(w.x, 0);
        w.runOf(w.noted(w.pair(five, five)), 0, 0);
        check.due("note(1)", w.x.note(1), -5);
        check.dueNoNote(w.x, 2);
        w.runOf(w.plus(five, w.failing()), 0, 0);
        check.due("note(0)", w.x.note(0), -5);
        check.dueNoNote(w.x, 1);
        w.runOf(w.plus(w.failing(), five), 0, 0);
        check.dueNoNote(w.x, 0);
        w.runOf(w.call(0, five, five), 0, 0);
        check.due("told(0)", w.x.told(0), 7);
        check.due("note(11)", w.x.note(11), -5);
        check.dueNoNote(w.x, 12);
        w.runOf(w.caught(w.lastly(w.failing(), five), w.noted(five), Writer.ANY), 0, 0);
        check.due("told(4)", w.x.told(4), 3);
    }

    private static void refusedRunsChangeNothing(Check check, DeepStacks x) {
        x.run(1, 3, 0);
        x.run(2, 9, 9);
        check.due("note(2)", x.note(2), 3);
        check.dueNoNote(x, 3);
    }
}
