import java.util.ArrayList;
import java.util.HashMap;
import java.util.List;
import java.util.Map;

/** Works RUNS as the document tells it, by Java's own recursion and exceptions. */
final class Model {
    private static final int[][] PARTS = {
        {}, {}, {0, 1}, {0, 1}, {0, 1}, {0, 1}, {0, 1}, {0, 1, 2}, {1, 2}, {0, 1}, {0}, {0}, {},
        {0}, {0, 1}, {0, 1}, {0, 1}, {0}, {0}
    };

    /** A PAIR; NOTHING is null, a NUMBER an Integer. */
    static final class Pair {
        final Object head;
        final Object tail;
        final int age;

        Pair(Object head, Object tail, int age) {
            this.head = head;
            this.tail = tail;
            this.age = age;
        }
    }

    private static final class Failure extends Exception {
        private static final long serialVersionUID = 1L;
        final int fault;
        final int raised;

        Failure(int fault, int raised) {
            this.fault = fault;
            this.raised = raised;
        }
    }

    private static final class Spent extends RuntimeException {
        private static final long serialVersionUID = 1L;
    }

    /** A CALL that is to be worked in place of the one that it stands last in. */
    private static final class LastCall {
        final int function;
        final Object x;
        final Object y;

        LastCall(int function, Object x, Object y) {
            this.function = function;
            this.x = x;
            this.y = y;
        }
    }

    private final List<int[]> expressions = new ArrayList<>();
    private final List<Integer> heights = new ArrayList<>();
    private final int[] bodies = {-1, -1, -1, -1, -1, -1};
    private int room = 10;
    private int failed;

    private int outcome;
    private int steps;
    private int most;
    private int pairs;
    private int calls;
    private int raised;
    private List<Integer> noted = new ArrayList<>();
    private Object value;
    private boolean hasValue;

    int expression(int kind, int... abc) {
        if (kind < 0 || kind > 18) {
            return -102;
        }
        int height = 1;
        for (int place : PARTS[kind]) {
            int part = abc[place];
            if (part < 0 || part >= expressions.size()) {
                return -101;
            }
            height = Math.max(height, 1 + heights.get(part));
        }
        if (kind == 8 && (abc[0] < 0 || abc[0] > 5)) {
            return -101;
        }
        if (kind == 1 && abc[0] != 0 && abc[0] != 1) {
            return -102;
        }
        if (kind == 15 && abc[2] != 9 && (abc[2] < 0 || abc[2] > 5)) {
            return -102;
        }
        if (expressions.size() == 100 || height > 8) {
            return -104;
        }
        expressions.add(new int[] {kind, abc[0], abc[1], abc[2]});
        heights.add(height);
        return expressions.size() - 1;
    }

    int body(int function, int expression) {
        if (function < 0 || function > 5 || expression < 0 || expression >= expressions.size()) {
            return -101;
        }
        int before = bodies[function];
        bodies[function] = expression;
        return before;
    }

    int room(int n) {
        if (n < 1 || n > 20) {
            return -102;
        }
        int before = room;
        room = n;
        return before;
    }

    int run(int function, int x, int y) {
        if (function < 0 || function > 5 || bodies[function] < 0) {
            return -101;
        }
        if (failed >= 2000) {
            return -104;
        }
        steps = most = pairs = calls = raised = outcome = 0;
        noted = new ArrayList<>();
        hasValue = false;
        try {
            value = called(function, x, y, 1);
            hasValue = true;
        } catch (Failure f) {
            outcome = f.fault + 1;
            raised = f.raised;
        } catch (Spent s) {
            outcome = 7;
            steps = 300;
        }
        return outcome;
    }

    int told(int what) {
        int[] all = {outcome, steps, most, pairs, noted.size(), calls, raised, room, failed};
        return what < 0 || what > 8 ? -102 : all[what];
    }

    /** null where note() throws. */
    Integer note(int i) {
        return i < 0 || i > 11 || i >= noted.size() ? null : noted.get(noted.size() - 1 - i);
    }

    int height(int expression) {
        return expression < 0 || expression >= heights.size() ? -101 : heights.get(expression);
    }

    boolean hasPlace(long path, int n) {
        return hasValue && (n == 0 || place(path, n - 1) instanceof Pair && hasPlace(path, n - 1));
    }

    /** Looked at only where there is such a place. */
    Object place(long path, int n) {
        Object at = value;
        for (int i = 0; i < n && hasValue; i++) {
            if (!(at instanceof Pair)) {
                return null;
            }
            at = (path >> i) % 2 == 0 ? ((Pair) at).head : ((Pair) at).tail;
        }
        return at;
    }

    int length() {
        int count = 0;
        Object at = hasValue ? value : null;
        while (at instanceof Pair) {
            at = ((Pair) at).tail;
            count++;
        }
        return count;
    }

    private Object called(int function, Object x, Object y, int under) throws Failure {
        most = Math.max(most, under);
        LastCall call = new LastCall(function, x, y);
        while (true) {
            calls++;
            Object came = work(bodies[call.function], new Object[] {call.x, call.y}, under, true);
            if (!(came instanceof LastCall)) {
                return came;
            }
            call = (LastCall) came;
        }
    }

    private Object work(int e, Object[] arguments, int under, boolean last) throws Failure {
        steps++;
        if (steps == 301) {
            throw new Spent();
        }
        int[] of = expressions.get(e);
        switch (of[0]) {
            case 0: return of[1];
            case 1: return arguments[of[1]];
            case 7: {
                int test = wantNumber(work(of[1], arguments, under, false));
                return work(test != 0 ? of[2] : of[3], arguments, under, last);
            }
            case 8: {
                Object x = work(of[2], arguments, under, false);
                Object y = work(of[3], arguments, under, false);
                return call(of[1], x, y, under, last);
            }
            case 12: return null;
            case 15: return tried(of, arguments, under, last);
            case 16: return lastly(of, arguments, under);
            default: break;
        }
        Object a = work(of[1], arguments, under, false);
        Object b = PARTS[of[0]].length == 2 ? work(of[2], arguments, under, false) : null;
        return plain(of[0], a, b);
    }

    private Object call(int function, Object x, Object y, int under, boolean last) throws Failure {
        if (bodies[function] < 0) {
            throw own(0, 0);
        }
        if (last) {
            return new LastCall(function, x, y);
        }
        if (under == room) {
            throw own(4, 0);
        }
        return called(function, x, y, under + 1);
    }

    private Object tried(int[] of, Object[] arguments, int under, boolean last) throws Failure {
        try {
            return work(of[1], arguments, under, false);
        } catch (Failure f) {
            if (of[3] != 9 && of[3] != f.fault) {
                throw f;
            }
        }
        return work(of[2], arguments, under, last);
    }

    private Object lastly(int[] of, Object[] arguments, int under) throws Failure {
        Object a;
        try {
            a = work(of[1], arguments, under, false);
        } catch (Failure f) {
            work(of[2], arguments, under, false);
            throw f;
        }
        work(of[2], arguments, under, false);
        return a;
    }

    private Object plain(int kind, Object a, Object b) throws Failure {
        switch (kind) {
            case 2: case 3: case 4: case 5: case 6: {
                int m = wantNumber(a);
                return reckoned(kind, m, wantNumber(b));
            }
            case 9:
                if (pairs == 100) {
                    throw own(5, 0);
                }
                pairs++;
                return new Pair(a, b, pairs);
            case 10: return wantPair(a).head;
            case 11: return wantPair(a).tail;
            case 13: return a instanceof Pair ? 1 : 0;
            case 14: return like(a, b, new HashMap<>()) ? 1 : 0;
            case 17: throw own(3, wantNumber(a));
            default:
                noted.add(wantNumber(a));
                return a;
        }
    }

    private int reckoned(int kind, int m, int n) throws Failure {
        if (kind == 5 && n == 0) {
            throw own(2, 0);
        }
        long whole = kind == 2 ? (long) m + n : kind == 3 ? (long) m - n
            : kind == 4 ? (long) m * n : kind == 5 ? (long) m / n : m < n ? 1 : 0;
        return (int) whole;
    }

    /** What was compared is kept, since PAIRS may share their parts many times over. */
    private static boolean like(Object a, Object b, Map<Integer, Boolean> known) {
        if (!(a instanceof Pair) || !(b instanceof Pair)) {
            return a == null ? b == null : a.equals(b);
        }
        Pair p = (Pair) a;
        Pair q = (Pair) b;
        int key = p.age * 1000 + q.age;
        Boolean before = known.get(key);
        if (before == null) {
            before = like(p.head, q.head, known) && like(p.tail, q.tail, known);
            known.put(key, before);
        }
        return before;
    }

    private int wantNumber(Object v) throws Failure {
        if (v == null) {
            throw own(0, 0);
        }
        if (v instanceof Pair) {
            throw own(1, 0);
        }
        return (Integer) v;
    }

    private Pair wantPair(Object v) throws Failure {
        if (v == null) {
            throw own(0, 0);
        }
        if (v instanceof Integer) {
            throw own(1, 0);
        }
        return (Pair) v;
    }

    private Failure own(int fault, int with) {
        failed++;
        return new Failure(fault, with);
    }
}
