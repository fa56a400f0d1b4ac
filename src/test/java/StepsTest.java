/**
 * "STEPS is 1 more; when it is 301 then, the RUN is SPENT: nothing more is done in it", and what
 * is told behind such a RUN: each EXPRESSION here once ends with STEP 300, once is one too long.
 */
final class StepsTest {
    private static final int SPENT = 7;
    /** STEPS of one time round the FUNCTION 0 of prepared(), and of its end. */
    private static final int ROUND = 7, END = 5;

    private final Check check;

    private StepsTest(Check check) {
        this.check = check;
    }

    public static void main(String[] args) {
        Check check = new Check();
        StepsTest test = new StepsTest(check);
        test.oneBelow();
        test.bodyInTheLastPlace();
        test.bodyThatTakesRoom();
        test.callThatFails();
        test.lastPlacesInIt();
        test.secondOfCatch();
        test.secondOfLastly();
        test.raisedAndSpent();
        test.partsOfOthers();
        test.nothingMoreIsDone();
        test.nextRunBeginsAnew();
        check.end();
    }

    /**
     * FUNCTION 0 calls itself and at last FUNCTION 1, always in the LAST PLACE; the BODY of that
     * is the made EXPRESSION. Behind so many STEPS as told its first one is due.
     */
    private static Writer prepared(int before, Writer.Made made) {
        Writer w = new Writer();
        int x = w.argument(0);
        int zero = w.number(0);
        int more = (before - END) % ROUND;
        int left = longer(w, zero, more / 2);
        int right = longer(w, zero, more - more / 2);
        int again = w.call(0, w.minus(x, w.number(1)), zero);
        w.x.body(0, w.choice(x, again, w.call(1, left, right)));
        w.x.body(1, made.by(w));
        w.x.body(2, zero);
        return w;
    }

    private static int longer(Writer w, int expression, int steps) {
        int top = expression;
        for (int i = 0; i < steps; i++) {
            top = w.isPair(top);
        }
        return top;
    }

    private static int rounds(int before) {
        return (before - END) / ROUND;
    }

    private Writer due(String of, int before, Writer.Made made, int outcome, int... mostCallsFailed) {
        Writer w = prepared(before, made);
        return dueOf(of, w, before, outcome, mostCallsFailed);
    }

    /** The CALLS are told from that of FUNCTION 1 on, which is the first of them. */
    private Writer dueOf(String of, Writer w, int before, int outcome, int... mostCallsFailed) {
        String run = of + " behind " + before + " STEPS: ";
        check.due(run + "run", w.x.run(0, rounds(before), 0), outcome);
        check.due(run + "told(0)", w.x.told(0), outcome);
        check.due(run + "told(1)", w.x.told(1), 300);
        check.due(run + "told(2)", w.x.told(2), mostCallsFailed[0]);
        check.due(run + "told(5)", w.x.told(5), 1 + rounds(before) + mostCallsFailed[1]);
        check.due(run + "told(8)", w.x.told(8), mostCallsFailed[2]);
        check.due(run + "has a VALUE", w.x.sort(0L, 0) == DeepStacks.NONE ? 0 : 1, outcome == 0 ? 1 : 0);
        return w;
    }

    private static int spare(Writer w) {
        return w.number(3);
    }

    /** STEPS are told as they are as long as the RUN is not SPENT. */
    private void oneBelow() {
        for (int before = 290; before < 300; before++) {
            Writer w = prepared(before, StepsTest::spare);
            check.due("run of " + before + " + 1 STEPS", w.x.run(0, rounds(before), 0), 0);
            check.due("told(1)", w.x.told(1), before + 1);
            check.due("number(0, 0)", w.x.number(0L, 0), 3);
        }
    }

    /** A CALL whose BODY would begin with the 301st STEP has begun it: so it counts. */
    private void bodyInTheLastPlace() {
        due("a BODY in the LAST PLACE", 299, StepsTest::spare, 0, 1, 1, 0);
        due("a BODY in the LAST PLACE", 300, StepsTest::spare, SPENT, 1, 1, 0);
    }

    private void bodyThatTakesRoom() {
        Writer.Made made = w -> w.isPair(w.call(2, spare(w), spare(w)));
        due("a BODY that takes room", 295, made, 0, 2, 2, 0);
        due("a BODY that takes room", 296, made, SPENT, 2, 2, 0);
        due("c of an 8", 297, made, SPENT, 1, 1, 0);
        due("b of an 8", 298, made, SPENT, 1, 1, 0);
        due("an 8", 299, made, SPENT, 1, 1, 0);
    }

    /** An 8 that FAILS begins no BODY: it takes no STEP more than its parts. */
    private void callThatFails() {
        Writer.Made empty = w -> w.isPair(w.call(3, spare(w), spare(w)));
        due("an 8 without a BODY", 296, empty, 1 + Writer.EMPTY, 1, 1, 1);
        due("an 8 without a BODY", 297, empty, SPENT, 1, 1, 0);
        Writer.Made deep = w -> w.isPair(w.call(2, spare(w), spare(w)));
        for (int before = 296; before <= 297; before++) {
            Writer w = prepared(before, deep);
            w.x.room(1);
            boolean fits = before == 296;
            dueOf("an 8 too deep", w, before, fits ? 1 + Writer.DEEP : SPENT, 1, 1, fits ? 1 : 0);
        }
    }

    private void lastPlacesInIt() {
        Writer.Made chosen = w -> w.choice(spare(w), w.call(2, spare(w), spare(w)), spare(w));
        due("an 8 as b of a 7", 294, chosen, 0, 1, 2, 0);
        due("an 8 as b of a 7", 295, chosen, SPENT, 1, 2, 0);
        due("an 8 as b of a 7", 296, chosen, SPENT, 1, 1, 0);
        Writer.Made other = w -> w.choice(w.number(0), spare(w), w.call(2, spare(w), spare(w)));
        due("an 8 as c of a 7", 294, other, 0, 1, 2, 0);
        due("an 8 as c of a 7", 295, other, SPENT, 1, 2, 0);
        Writer.Made caught = w -> w.caught(w.failing(), w.call(2, spare(w), spare(w)), Writer.EMPTY);
        due("an 8 as b of a 15", 293, caught, 0, 1, 2, 1);
        due("an 8 as b of a 15", 294, caught, SPENT, 1, 2, 1);
        due("an 8 as b of a 15", 295, caught, SPENT, 1, 1, 1);
        Writer.Made first = w -> w.caught(w.call(2, spare(w), spare(w)), spare(w), Writer.ANY);
        due("an 8 as a of a 15", 295, first, 0, 2, 2, 0);
        due("an 8 as a of a 15", 296, first, SPENT, 2, 2, 0);
        due("an 8 as a of a 15", 297, first, SPENT, 1, 1, 0);
    }

    private void secondOfCatch() {
        for (int caught : new int[] {Writer.EMPTY, Writer.ANY}) {
            Writer.Made made = w -> w.caught(w.failing(), spare(w), caught);
            due("b of a 15", 296, made, 0, 1, 1, 1);
            due("b of a 15", 297, made, SPENT, 1, 1, 1);
            due("a part of a of a 15", 298, made, SPENT, 1, 1, 0);
            due("a of a 15", 299, made, SPENT, 1, 1, 0);
        }
        Writer.Made missed = w -> w.caught(w.failing(), spare(w), Writer.CAST);
        due("a 15 that does not catch", 297, missed, 1 + Writer.EMPTY, 1, 1, 1);
        Writer.Made whole = w -> w.caught(spare(w), spare(w), Writer.ANY);
        due("a 15 whose a does not FAIL", 298, whole, 0, 1, 1, 0);
        due("a 15 whose a does not FAIL", 299, whole, SPENT, 1, 1, 0);
    }

    private void secondOfLastly() {
        Writer.Made whole = w -> w.lastly(spare(w), w.number(4));
        Writer w3 = due("b of a 16", 297, whole, 0, 1, 1, 0);
        check.due("number(0, 0)", w3.x.number(0L, 0), 3);
        due("b of a 16", 298, whole, SPENT, 1, 1, 0);
        due("a of a 16", 299, whole, SPENT, 1, 1, 0);
        Writer.Made failed = w -> w.lastly(w.failing(), spare(w));
        due("b of a 16 whose a FAILED", 296, failed, 1 + Writer.EMPTY, 1, 1, 1);
        due("b of a 16 whose a FAILED", 297, failed, SPENT, 1, 1, 1);
        due("a part of a of a 16", 298, failed, SPENT, 1, 1, 0);
        Writer.Made both = w -> w.lastly(w.failing(), w.raise(spare(w)));
        due("a 16 whose a and b FAIL", 295, both, 1 + Writer.RAISED, 1, 1, 2);
        due("a 16 whose a and b FAIL", 296, both, SPENT, 1, 1, 1);
        Writer.Made called = w -> w.lastly(spare(w), w.call(2, spare(w), spare(w)));
        due("an 8 as b of a 16", 294, called, 0, 2, 2, 0);
        due("an 8 as b of a 16", 295, called, SPENT, 2, 2, 0);
        due("an 8 as b of a 16", 296, called, SPENT, 1, 1, 0);
    }

    /** A RUN that is SPENT did not FAIL by what was RAISED in it. */
    private void raisedAndSpent() {
        Writer.Made lastly = w -> w.lastly(w.raise(spare(w)), spare(w));
        Writer fits = due("b of a 16 behind a 17", 296, lastly, 1 + Writer.RAISED, 1, 1, 1);
        check.due("told(6)", fits.x.told(6), 3);
        Writer spent = due("b of a 16 behind a 17", 297, lastly, SPENT, 1, 1, 1);
        check.due("told(6)", spent.x.told(6), 0);
        Writer.Made caught = w -> w.caught(w.raise(spare(w)), w.raise(w.number(8)), Writer.RAISED);
        Writer again = due("b of a 15 behind a 17", 295, caught, 1 + Writer.RAISED, 1, 1, 2);
        check.due("told(6)", again.x.told(6), 8);
        Writer late = due("b of a 15 behind a 17", 296, caught, SPENT, 1, 1, 1);
        check.due("told(6)", late.x.told(6), 0);
    }

    /** What an EXPRESSION is there for is done behind its parts, if their STEPS were not too many. */
    private void partsOfOthers() {
        due("a FAILURE", 298, Writer::failing, 1 + Writer.EMPTY, 1, 1, 1);
        due("a FAILURE", 299, Writer::failing, SPENT, 1, 1, 0);
        Writer.Made noted = w -> w.noted(spare(w));
        check.due("told(4)", due("an 18", 298, noted, 0, 1, 1, 0).x.told(4), 1);
        check.due("told(4)", due("an 18", 299, noted, SPENT, 1, 1, 0).x.told(4), 0);
        Writer.Made pair = w -> w.pair(spare(w), spare(w));
        check.due("told(3)", due("a 9", 297, pair, 0, 1, 1, 0).x.told(3), 1);
        check.due("told(3)", due("a 9", 298, pair, SPENT, 1, 1, 0).x.told(3), 0);
        Writer.Made chosen = w -> w.choice(spare(w), spare(w), w.failing());
        due("b of a 7", 297, chosen, 0, 1, 1, 0);
        due("b of a 7", 298, chosen, SPENT, 1, 1, 0);
        due("a of a 7", 299, chosen, SPENT, 1, 1, 0);
    }

    /** No 15 catches it, and no b of a 16 is worked behind it; what was done before it stays. */
    private void nothingMoreIsDone() {
        Writer.Made made = w -> {
            int note = w.noted(spare(w));
            int inner = w.lastly(w.pair(note, spare(w)), spare(w));
            return w.caught(w.lastly(inner, note), note, Writer.ANY);
        };
        Writer w = due("a 16 in a 16 in a 15", 293, made, SPENT, 1, 1, 0);
        check.due("told(3)", w.x.told(3), 1);
        check.due("told(4)", w.x.told(4), 1);
        check.due("note(0)", w.x.note(0), 3);
        check.dueNoNote(w.x, 1);
        check.due("length()", w.x.length(), 0);
        check.dueNoNumber(w.x, 0L, 0, NullPointerException.class);
    }

    private void nextRunBeginsAnew() {
        Writer w = prepared(299, StepsTest::spare);
        check.due("run that is SPENT", w.x.run(0, 100, 0), SPENT);
        check.due("told(1)", w.x.told(1), 300);
        check.due("run of 300 STEPS", w.x.run(0, rounds(299), 0), 0);
        check.due("told(1)", w.x.told(1), 300);
        check.due("run that is SPENT", w.x.run(0, -1, 0), SPENT);
        check.due("run of 1 STEP", w.x.run(2, 0, 0), 0);
        check.due("told(1)", w.x.told(1), 1);
        check.due("told(5)", w.x.told(5), 1);
    }
}
