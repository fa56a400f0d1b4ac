/**
 * "If as many CALLS are under way as ROOM tells: FAULT 4 DEEP", at the least ROOM, the first and
 * the most; an 8 in the LAST PLACE takes no room at the same depth.
 */
final class DepthTest {
    private static final int[] ROOMS = {1, 10, 20};

    public static void main(String[] args) {
        Check check = new Check();
        for (int room : ROOMS) {
            inTheLastPlace(check, room);
            elsewhere(check, room);
            caughtAtDepth(check, room);
            givenBack(check, room);
        }
        manyInTheLastPlace(check);
        check.end();
    }

    /** FUNCTION 0 calls itself x times, so that x + 1 CALLS are under way, then works what is made. */
    private static Writer deep(int room, Writer.Made end) {
        Writer w = new Writer();
        int x = w.argument(0);
        int one = w.number(1);
        int again = w.plus(w.number(0), w.call(0, w.minus(x, one), one));
        w.x.body(0, w.choice(x, again, end.by(w)));
        w.x.body(4, call(w));
        w.x.body(5, w.number(9));
        w.x.room(room);
        return w;
    }

    private static int call(Writer w) {
        return w.call(5, w.number(1), w.number(1));
    }

    private static int raise(Writer w) {
        return w.raise(w.number(1));
    }

    private static void due(Check check, Writer w, int underWay, int outcome, int... mostCalls) {
        String run = "room " + w.x.told(7) + ", " + underWay + " CALLS under way: ";
        check.due(run + "run", w.x.run(0, underWay - 1, 0), outcome);
        check.due(run + "told(2)", w.x.told(2), mostCalls[0]);
        check.due(run + "told(5)", w.x.told(5), mostCalls[1]);
    }

    private static void inTheLastPlace(Check check, int room) {
        Writer.Made[] ends = {
            w -> call(w),
            w -> w.choice(w.number(1), call(w), w.number(0)),
            w -> w.choice(w.number(0), w.number(0), call(w)),
            w -> w.caught(raise(w), call(w), Writer.RAISED),
            w -> w.caught(raise(w), w.choice(w.number(0), w.number(0), call(w)), Writer.ANY)
        };
        for (Writer.Made end : ends) {
            Writer w = deep(room, end);
            due(check, w, room, 0, room, room + 1);
            check.due("number(0, 0)", w.x.number(0L, 0), 9);
            due(check, w, room + 1, 1 + Writer.DEEP, room, room);
        }
        due(check, deep(room, w -> w.call(4, w.number(1), w.number(1))), room, 0, room, room + 2);
    }

    private static Writer.Made[] takingRoom() {
        return new Writer.Made[] {
            w -> w.isPair(call(w)),
            w -> w.choice(call(w), w.number(1), w.number(1)),
            w -> w.caught(call(w), w.number(1), Writer.CAST),
            w -> w.lastly(call(w), w.number(1)),
            w -> w.lastly(w.number(1), call(w)),
            w -> w.noted(call(w)),
            w -> w.like(call(w), w.number(1)),
            w -> w.like(w.number(1), call(w)),
            w -> w.noted(w.choice(w.number(1), call(w), w.number(1))),
            w -> w.noted(w.choice(w.number(0), w.number(1), call(w))),
            w -> w.lastly(w.caught(raise(w), call(w), Writer.ANY), w.number(1))
        };
    }

    private static void elsewhere(Check check, int room) {
        for (Writer.Made end : takingRoom()) {
            Writer w = deep(room, end);
            due(check, w, room, 1 + Writer.DEEP, room, room);
            if (room > 1) {
                due(check, w, room - 1, 0, room, room);
            }
            if (room < 20) {
                w.x.room(room + 1);
                due(check, w, room, 0, room + 1, room + 1);
            }
        }
        Writer w = deep(room, v -> v.call(5, call(v), v.number(1)));
        due(check, w, room, 1 + Writer.DEEP, room, room);
    }

    /** The 8 itself FAILED, once; what catches it works on at the same depth. */
    private static void caughtAtDepth(Check check, int room) {
        for (int caught : new int[] {Writer.DEEP, Writer.ANY}) {
            Writer w = deep(room, v -> v.caught(v.isPair(call(v)), call(v), caught));
            due(check, w, room, 0, room, room + 1);
            check.due("number(0, 0)", w.x.number(0L, 0), 9);
            check.due("told(8)", w.x.told(8), 1);
        }
        Writer w = deep(room, v -> v.caught(v.isPair(call(v)), call(v), Writer.FULL));
        due(check, w, room, 1 + Writer.DEEP, room, room);
    }

    /** A CALL is under way no longer than until its BODY is worked or FAILS. */
    private static void givenBack(Check check, int room) {
        if (room == 1) {
            return;
        }
        Writer whole = deep(room, w -> w.plus(call(w), w.plus(call(w), call(w))));
        due(check, whole, room - 1, 0, room, room + 2);
        check.due("number(0, 0)", whole.x.number(0L, 0), 27);
        Writer failed = deep(room, w -> {
            w.x.body(3, raise(w));
            int caught = w.caught(w.call(3, w.number(1), w.number(1)), w.number(2), Writer.ANY);
            return w.plus(caught, w.plus(caught, call(w)));
        });
        due(check, failed, room - 1, 0, room, room + 2);
        check.due("number(0, 0)", failed.x.number(0L, 0), 13);
    }

    /** Far more CALLS than ROOM tells, each in place of the one before. */
    private static void manyInTheLastPlace(Check check) {
        for (int room : ROOMS) {
            Writer w = new Writer();
            int x = w.argument(0);
            int one = w.number(1);
            w.x.body(0, w.choice(x, w.call(0, w.minus(x, one), one), x));
            w.x.room(room);
            check.due("run of 42 CALLS", w.x.run(0, 41, 0), 0);
            check.due("told(2)", w.x.told(2), 1);
            check.due("told(5)", w.x.told(5), 42);
        }
    }
}
