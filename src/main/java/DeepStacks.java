import java.util.Arrays;
import java.util.NoSuchElementException;

/** A small language of functions whose depth has a told room; see README.md. */
public final class DeepStacks {
    public static final int NONE = -1, UNKNOWN = -101, OUTSIDE = -102, FULL = -104;

    private static final int FUNCTION_COUNT = 6;
    private static final int EXPRESSIONS_MOST = 100;
    private static final int HEIGHT_MOST = 8;
    private static final int ROOM_AT_FIRST = 10;
    private static final int ROOM_MOST = 20;
    private static final int STEPS_MOST = 300;
    private static final int PAIRS_MOST = 100;
    private static final int NOTES_MOST = 12;
    private static final int PATH_MOST = 60;
    private static final int FAILED_MOST = 2000;
    private static final int SPENT = 7;

    private final Program program;
    private final Machine machine;

    public DeepStacks() {
        program = new Program();
        machine = new Machine(program);
    }

    public int expression(int kind, int a, int b, int c) {
        if (!Kind.isKind(kind)) {
            return OUTSIDE;
        }
        if (!program.knowsNamed(kind, a, b, c)) {
            return UNKNOWN;
        }
        if (!Kind.isDetailFit(kind, Kind.detailOf(kind, a, c))) {
            return OUTSIDE;
        }
        if (program.isFull() || program.heightAbove(kind, a, b, c) > HEIGHT_MOST) {
            return FULL;
        }
        return program.add(kind, a, b, c);
    }

    public int body(int function, int expression) {
        if (!Program.isFunction(function) || !program.knows(expression)) {
            return UNKNOWN;
        }
        return program.changeBody(function, expression);
    }

    public int room(int n) {
        if (n < 1 || n > ROOM_MOST) {
            return OUTSIDE;
        }
        return machine.changeRoom(n);
    }

    public int run(int function, int x, int y) {
        int body = program.bodyOf(function);
        if (body == NONE) {
            return UNKNOWN;
        }
        if (machine.failedInAll() >= FAILED_MOST) {
            return FULL;
        }
        return machine.workThrough(body, Value.ofNumber(x), Value.ofNumber(y));
    }

    public int told(int what) {
        return machine.count(what);
    }

    public int note(int i) throws NoSuchElementException {
        if (!machine.hasNote(i)) {
            throw new NoSuchElementException();
        }
        return machine.noteAt(i);
    }

    public int sort(long path, int n) {
        if (n < 0 || n > PATH_MOST) {
            return OUTSIDE;
        }
        return Value.sortOf(machine.placeAt(path, n));
    }

    public int number(long path, int n)
            throws IllegalArgumentException, NullPointerException, ClassCastException {
        if (n < 0 || n > PATH_MOST) {
            throw new IllegalArgumentException();
        }
        long place = machine.placeAt(path, n);
        if (Value.isPair(place)) {
            throw new ClassCastException();
        }
        if (Value.sortOf(place) != Value.NUMBER) {
            throw new NullPointerException();
        }
        return Value.numberOf(place);
    }

    public int length() {
        return machine.pairsAlongTails();
    }

    public int height(int expression) {
        return program.knows(expression) ? program.heightOf(expression) : UNKNOWN;
    }

    /**
     * Looks at every index before it is used, so that no row is ever left, whatever the rest of
     * the class may ask for.
     */
    private static final class Rows {
        static int numberAt(int[] row, int i, int otherwise) {
            return i >= 0 && i < row.length ? row[i] : otherwise;
        }

        static void putNumber(int[] row, int i, int number) {
            if (i >= 0 && i < row.length) {
                row[i] = number;
            }
        }

        static long valueAt(long[] row, int i, long otherwise) {
            return i >= 0 && i < row.length ? row[i] : otherwise;
        }

        static void putValue(long[] row, int i, long value) {
            if (i >= 0 && i < row.length) {
                row[i] = value;
            }
        }
    }

    /** The KINDS of EXPRESSIONS, and what each of them has beside its parts: its detail. */
    private static final class Kind {
        static final int NUMBER = 0, ARGUMENT = 1, PLUS = 2, MINUS = 3, TIMES = 4, DIVIDED = 5;
        static final int BELOW = 6, CHOICE = 7, CALL = 8, PAIR = 9, HEAD = 10, TAIL = 11;
        static final int NOTHING = 12, IS_PAIR = 13, LIKE = 14, CATCH = 15, LASTLY = 16;
        static final int RAISE = 17, NOTED = 18, COUNT = 19;
        static final int PARTS_MOST = 3;

        private static final int[] PART_COUNTS = {
            0, 0, 2, 2, 2, 2, 2, 3, 2, 2, 1, 1, 0, 1, 2, 2, 2, 1, 1
        };

        static boolean isKind(int kind) {
            return kind >= 0 && kind < COUNT;
        }

        static int partCount(int kind) {
            return Rows.numberAt(PART_COUNTS, kind, 0);
        }

        /** In a CALL the FUNCTION stands at a, so that its parts begin at b. */
        static int partOf(int kind, int i, int a, int b, int c) {
            int place = kind == CALL ? i + 1 : i;
            return place == 0 ? a : place == 1 ? b : c;
        }

        static int detailOf(int kind, int a, int c) {
            return kind == CATCH ? c : a;
        }

        static boolean isDetailFit(int kind, int detail) {
            if (kind == ARGUMENT) {
                return detail == 0 || detail == 1;
            }
            if (kind == CATCH) {
                return detail >= Fault.EMPTY && detail <= Fault.FULL_OF_PAIRS || detail == Fault.ANY;
            }
            return true;
        }
    }

    /** The FAULTS by which an EXPRESSION FAILS. */
    private static final class Fault {
        static final int NO_FAULT = -1;
        static final int EMPTY = 0, CAST = 1, ZERO = 2, RAISED = 3, DEEP = 4, FULL_OF_PAIRS = 5;
        static final int ANY = 9;

        static int ofParts(int kind, long a, long b) {
            switch (kind) {
                case Kind.PLUS:
                case Kind.MINUS:
                case Kind.TIMES:
                case Kind.DIVIDED:
                case Kind.BELOW:
                    int first = ofSort(a, Value.NUMBER);
                    return first != NO_FAULT ? first : ofSort(b, Value.NUMBER);
                case Kind.CHOICE:
                case Kind.RAISE:
                case Kind.NOTED:
                    return ofSort(a, Value.NUMBER);
                case Kind.HEAD:
                case Kind.TAIL:
                    return ofSort(a, Value.PAIR);
                default:
                    return NO_FAULT;
            }
        }

        private static int ofSort(long value, int wanted) {
            int found = Value.sortOf(value);
            if (found == wanted) {
                return NO_FAULT;
            }
            return found == Value.NOTHING ? EMPTY : CAST;
        }
    }

    /**
     * A VALUE is held in a long, its sort in the upper half and its NUMBER, or the row of its
     * PAIR, in the lower: so working makes no objects, however many VALUES a RUN comes to.
     */
    private static final class Value {
        static final int NOTHING = 0, NUMBER = 1, PAIR = 2;
        static final long OF_NOTHING = 0L;
        /** Its sort is NONE, as sort() tells it. */
        static final long NO_PLACE = -1L;

        private static final int HALF = 32;
        private static final long LOWER = 0xFFFFFFFFL;

        static int sortOf(long value) {
            return (int) (value >> HALF);
        }

        static boolean isPair(long value) {
            return (int) (value >> HALF) == PAIR;
        }

        static int numberOf(long value) {
            return (int) value;
        }

        static long ofNumber(int number) {
            return ((long) NUMBER << HALF) | (number & LOWER);
        }

        static long ofTruth(boolean truth) {
            return ofNumber(truth ? 1 : 0);
        }

        static long ofPair(int row) {
            return ((long) PAIR << HALF) | row;
        }
    }

    /**
     * The PAIRS of a RUN. LIKE PAIRS share one row, so that two VALUES are LIKE just when their
     * longs are equal: comparing takes no depth, and no time either for VALUES whose parts are
     * shared so often that walking them would not end.
     */
    private static final class Pairs {
        private final long[] heads = new long[PAIRS_MOST];
        private final long[] tails = new long[PAIRS_MOST];
        private int rows;
        private int made;

        void clear() {
            rows = 0;
            made = 0;
        }

        int made() {
            return made;
        }

        boolean isFull() {
            return made >= PAIRS_MOST;
        }

        /** Wanted only while the PAIRS are not full. */
        long join(long head, long tail) {
            made++;
            for (int row = 0; row < rows && row < PAIRS_MOST; row++) {
                if (heads[row] == head && tails[row] == tail) {
                    return Value.ofPair(row);
                }
            }
            Rows.putValue(heads, rows, head);
            Rows.putValue(tails, rows, tail);
            rows++;
            return Value.ofPair(rows - 1);
        }

        long headOf(long value) {
            return partOf(value, heads);
        }

        long tailOf(long value) {
            return partOf(value, tails);
        }

        private static long partOf(long value, long[] row) {
            if (!Value.isPair(value)) {
                return Value.NO_PLACE;
            }
            return Rows.valueAt(row, Value.numberOf(value), Value.NO_PLACE);
        }

        long placeBehind(long value, long path, int n) {
            long place = value;
            for (int i = 0; i < n; i++) {
                place = (path >>> i & 1L) == 0L ? headOf(place) : tailOf(place);
            }
            return place;
        }

        /** A tail is always older than its PAIR, so PAIRS_MOST bounds the way along them. */
        int countAlongTails(long value) {
            int count = 0;
            long place = value;
            while (count < PAIRS_MOST && Value.isPair(place)) {
                place = tailOf(place);
                count++;
            }
            return count;
        }
    }

    /** The NOTES of a RUN: a ring, since only the latest are kept. */
    private static final class Notes {
        private final int[] ring = new int[NOTES_MOST];
        private int noted;

        void clear() {
            noted = 0;
        }

        void add(int number) {
            Rows.putNumber(ring, noted % NOTES_MOST, number);
            noted++;
        }

        int noted() {
            return noted;
        }

        boolean has(int i) {
            return i >= 0 && i < NOTES_MOST && i < noted;
        }

        int latest(int i) {
            return Rows.numberAt(ring, (noted - 1 - i) % NOTES_MOST, 0);
        }
    }

    /** The CALLS under way, each with its two ARGUMENTS. */
    private static final class Calls {
        private final long[] arguments = new long[2 * ROOM_MOST];
        private int room = ROOM_AT_FIRST;
        private int underWay;
        private int most;
        private int begun;

        void clear() {
            underWay = 0;
            most = 0;
            begun = 0;
        }

        int changeRoom(int n) {
            int before = room;
            room = n;
            return before;
        }

        int roomNow() {
            return room;
        }

        int most() {
            return most;
        }

        int begun() {
            return begun;
        }

        boolean isFull() {
            return underWay >= room;
        }

        /** Wanted only while there is room. */
        void enter(long x, long y) {
            underWay++;
            most = Math.max(most, underWay);
            replace(x, y);
        }

        void replace(long x, long y) {
            begun++;
            Rows.putValue(arguments, 2 * underWay - 2, x);
            Rows.putValue(arguments, 2 * underWay - 1, y);
        }

        void leave() {
            underWay--;
        }

        long argument(int i) {
            return Rows.valueAt(arguments, 2 * underWay - 2 + i, Value.OF_NOTHING);
        }
    }

    /** The EXPRESSIONS, and the BODIES of the FUNCTIONS. */
    private static final class Program {
        private final int[] kinds = new int[EXPRESSIONS_MOST];
        private final int[] details = new int[EXPRESSIONS_MOST];
        private final int[] parts = new int[Kind.PARTS_MOST * EXPRESSIONS_MOST];
        private final int[] heights = new int[EXPRESSIONS_MOST];
        private final int[] bodies = new int[FUNCTION_COUNT];
        private int count;

        Program() {
            Arrays.fill(bodies, NONE);
        }

        static boolean isFunction(int function) {
            return function >= 0 && function < FUNCTION_COUNT;
        }

        boolean knows(int expression) {
            return expression >= 0 && expression < count;
        }

        boolean isFull() {
            return count >= EXPRESSIONS_MOST;
        }

        boolean knowsNamed(int kind, int a, int b, int c) {
            for (int i = 0; i < Kind.partCount(kind); i++) {
                if (!knows(Kind.partOf(kind, i, a, b, c))) {
                    return false;
                }
            }
            return kind != Kind.CALL || isFunction(a);
        }

        /** Wanted only of parts that are known. */
        int heightAbove(int kind, int a, int b, int c) {
            int greatest = 0;
            for (int i = 0; i < Kind.partCount(kind); i++) {
                greatest = Math.max(greatest, heightOf(Kind.partOf(kind, i, a, b, c)));
            }
            return greatest + 1;
        }

        /** Wanted only of what was found to be in order, while there is room. */
        int add(int kind, int a, int b, int c) {
            int added = count;
            Rows.putNumber(kinds, added, kind);
            Rows.putNumber(details, added, Kind.detailOf(kind, a, c));
            Rows.putNumber(heights, added, heightAbove(kind, a, b, c));
            for (int i = 0; i < Kind.partCount(kind); i++) {
                int part = Kind.partOf(kind, i, a, b, c);
                Rows.putNumber(parts, Kind.PARTS_MOST * added + i, part);
            }
            count++;
            return added;
        }

        int changeBody(int function, int expression) {
            int before = bodyOf(function);
            Rows.putNumber(bodies, function, expression);
            return before;
        }

        int bodyOf(int function) {
            return Rows.numberAt(bodies, function, NONE);
        }

        int kindOf(int expression) {
            return Rows.numberAt(kinds, expression, Kind.NOTHING);
        }

        int detailOf(int expression) {
            return Rows.numberAt(details, expression, NONE);
        }

        int partOf(int expression, int i) {
            return Rows.numberAt(parts, Kind.PARTS_MOST * expression + i, NONE);
        }

        int heightOf(int expression) {
            return Rows.numberAt(heights, expression, 0);
        }
    }

    /** An EXPRESSION that is being worked. */
    private static final class Frame {
        int expression;
        boolean last;
        int begun;
        long first;
        long second;
        int fault;
        int raised;
    }

    /**
     * Works RUNS. The EXPRESSIONS being worked stand in rows of its own, not on Java's stack, so
     * that no program can take more of that than another.
     */
    private static final class Machine {
        /** A CALL is open with at most a path of its BODY. */
        private static final int FRAMES_MOST = ROOM_MOST * HEIGHT_MOST;
        /** An EXPRESSION has at most four turns: one for each part, one behind them. */
        private static final int TURNS_MOST = 10 * STEPS_MOST;
        /** How many parts of a CALL have begun when its BODY, as the third, has. */
        private static final int BODY_BEGUN = 3;

        private final Program program;
        private final Pairs pairs = new Pairs();
        private final Notes notes = new Notes();
        private final Calls calls = new Calls();
        private final Frame[] frames = new Frame[FRAMES_MOST];
        private int open;
        private int steps;
        private boolean spent;
        private long result = Value.NO_PLACE;
        private int fault = Fault.NO_FAULT;
        private int raised;
        private int failedInAll;
        private int outcome;

        Machine(Program worked) {
            program = worked;
            for (int i = 0; i < FRAMES_MOST; i++) {
                frames[i] = new Frame();
            }
        }

        int failedInAll() {
            return failedInAll;
        }

        int changeRoom(int n) {
            return calls.changeRoom(n);
        }

        boolean hasNote(int i) {
            return notes.has(i);
        }

        int noteAt(int i) {
            return notes.latest(i);
        }

        long placeAt(long path, int n) {
            return pairs.placeBehind(result, path, n);
        }

        int pairsAlongTails() {
            return pairs.countAlongTails(result);
        }

        int count(int what) {
            switch (what) {
                case 0: return outcome;
                case 1: return steps;
                case 2: return calls.most();
                case 3: return pairs.made();
                case 4: return notes.noted();
                case 5: return calls.begun();
                case 6: return outcome == Fault.RAISED + 1 ? raised : 0;
                case 7: return calls.roomNow();
                case 8: return failedInAll;
                default: return OUTSIDE;
            }
        }

        int workThrough(int body, long x, long y) {
            clear();
            calls.enter(x, y);
            begin(body, true);
            Frame frame = topFrame();
            for (int turn = 0; turn < TURNS_MOST && frame != null; turn++) {
                if (frame.begun > 0 || mayStep()) {
                    advance(frame);
                }
                frame = topFrame();
            }
            outcome = spent ? SPENT : fault + 1;
            if (outcome != 0) {
                result = Value.NO_PLACE;
            }
            return outcome;
        }

        private void clear() {
            pairs.clear();
            notes.clear();
            calls.clear();
            open = 0;
            steps = 0;
            spent = false;
            fault = Fault.NO_FAULT;
        }

        /** The frame that is worked now; null when the RUN has come to its end. */
        private Frame topFrame() {
            return open > 0 && open <= FRAMES_MOST ? frames[open - 1] : null;
        }

        private void begin(int expression, boolean last) {
            open++;
            Frame frame = topFrame();
            if (frame != null) {
                frame.expression = expression;
                frame.last = last;
                frame.begun = 0;
            }
        }

        /** A frame that only waits for its LAST PLACE is given up to it: so that takes no room. */
        private void become(Frame frame, int expression) {
            open--;
            begin(expression, frame.last);
        }

        private boolean mayStep() {
            if (steps >= STEPS_MOST) {
                spent = true;
                open = 0;
                return false;
            }
            steps++;
            return true;
        }

        private void beginPart(Frame frame) {
            int part = program.partOf(frame.expression, frame.begun);
            frame.begun++;
            begin(part, false);
        }

        private void finish(long value) {
            result = value;
            open--;
        }

        private void fail(int own) {
            fault = own;
            failedInAll++;
            open--;
        }

        /** What the part came to, VALUE or FAILURE, is what the frame comes to. */
        private void passOn() {
            open--;
        }

        private boolean isFailing() {
            return fault != Fault.NO_FAULT;
        }

        private void advance(Frame frame) {
            switch (program.kindOf(frame.expression)) {
                case Kind.CHOICE:
                    workChoice(frame);
                    break;
                case Kind.CALL:
                    workCall(frame);
                    break;
                case Kind.CATCH:
                    workCatch(frame);
                    break;
                case Kind.LASTLY:
                    workLastly(frame);
                    break;
                default:
                    workPlain(frame);
                    break;
            }
        }

        /** Whether the first parts have come to VALUES; if not, the frame goes on by itself. */
        private boolean hasParts(Frame frame, int wanted) {
            if (isFailing()) {
                passOn();
                return false;
            }
            if (frame.begun == 1) {
                frame.first = result;
            } else if (frame.begun == 2) {
                frame.second = result;
            }
            if (frame.begun < wanted) {
                beginPart(frame);
                return false;
            }
            return true;
        }

        private void workChoice(Frame frame) {
            if (!hasParts(frame, 1)) {
                return;
            }
            int wrong = Fault.ofParts(Kind.CHOICE, frame.first, frame.second);
            if (wrong != Fault.NO_FAULT) {
                fail(wrong);
                return;
            }
            int chosen = Value.numberOf(frame.first) != 0 ? 1 : 2;
            become(frame, program.partOf(frame.expression, chosen));
        }

        private void workCall(Frame frame) {
            if (frame.begun == BODY_BEGUN) {
                calls.leave();
                passOn();
            } else if (hasParts(frame, 2)) {
                beginBody(frame, program.bodyOf(program.detailOf(frame.expression)));
            }
        }

        private void beginBody(Frame frame, int body) {
            if (body == NONE) {
                fail(Fault.EMPTY);
            } else if (frame.last) {
                calls.replace(frame.first, frame.second);
                become(frame, body);
            } else if (calls.isFull()) {
                fail(Fault.DEEP);
            } else {
                calls.enter(frame.first, frame.second);
                frame.begun = BODY_BEGUN;
                begin(body, true);
            }
        }

        private void workCatch(Frame frame) {
            if (frame.begun == 0) {
                beginPart(frame);
            } else if (isFailing() && isCaught(program.detailOf(frame.expression))) {
                fault = Fault.NO_FAULT;
                become(frame, program.partOf(frame.expression, 1));
            } else {
                passOn();
            }
        }

        private boolean isCaught(int caught) {
            return caught == Fault.ANY || caught == fault;
        }

        private void workLastly(Frame frame) {
            if (frame.begun == 0) {
                beginPart(frame);
            } else if (frame.begun == 1) {
                keepOutcome(frame);
                beginPart(frame);
            } else {
                if (!isFailing()) {
                    giveBackOutcome(frame);
                }
                passOn();
            }
        }

        /** What is RAISED is kept too: b may raise and catch something else meanwhile. */
        private void keepOutcome(Frame frame) {
            frame.first = result;
            frame.fault = fault;
            frame.raised = raised;
            fault = Fault.NO_FAULT;
        }

        private void giveBackOutcome(Frame frame) {
            result = frame.first;
            fault = frame.fault;
            raised = frame.raised;
        }

        private void workPlain(Frame frame) {
            int kind = program.kindOf(frame.expression);
            if (!hasParts(frame, Kind.partCount(kind))) {
                return;
            }
            int wrong = Fault.ofParts(kind, frame.first, frame.second);
            if (wrong == Fault.NO_FAULT) {
                wrong = faultBehindSorts(kind, frame.second);
            }
            if (wrong == Fault.NO_FAULT) {
                finish(valueOf(kind, program.detailOf(frame.expression), frame.first, frame.second));
                return;
            }
            if (wrong == Fault.RAISED) {
                raised = Value.numberOf(frame.first);
            }
            fail(wrong);
        }

        private int faultBehindSorts(int kind, long b) {
            switch (kind) {
                case Kind.DIVIDED: return Value.numberOf(b) == 0 ? Fault.ZERO : Fault.NO_FAULT;
                case Kind.RAISE: return Fault.RAISED;
                case Kind.PAIR: return pairs.isFull() ? Fault.FULL_OF_PAIRS : Fault.NO_FAULT;
                default: return Fault.NO_FAULT;
            }
        }

        private long valueOf(int kind, int detail, long a, long b) {
            switch (kind) {
                case Kind.NUMBER: return Value.ofNumber(detail);
                case Kind.ARGUMENT: return calls.argument(detail);
                case Kind.PAIR: return pairs.join(a, b);
                case Kind.HEAD: return pairs.headOf(a);
                case Kind.TAIL: return pairs.tailOf(a);
                case Kind.NOTHING: return Value.OF_NOTHING;
                case Kind.IS_PAIR: return Value.ofTruth(Value.isPair(a));
                case Kind.LIKE: return Value.ofTruth(a == b);
                case Kind.NOTED: return notedValue(a);
                default: return Value.ofNumber(reckoned(kind, Value.numberOf(a), Value.numberOf(b)));
            }
        }

        private long notedValue(long value) {
            notes.add(Value.numberOf(value));
            return value;
        }

        private static int reckoned(int kind, int a, int b) {
            switch (kind) {
                case Kind.PLUS: return a + b;
                case Kind.MINUS: return a - b;
                case Kind.TIMES: return a * b;
                case Kind.DIVIDED: return b == 0 ? 0 : a / b;
                default: return a < b ? 1 : 0;
            }
        }
    }
}
