import java.util.NoSuchElementException;
import java.util.Random;

/** Programs made up by a fixed seed are worked as the model works them. */
final class ModelTest {
    private static final int PROGRAMS = 4000;
    /** The document promises nothing of later calls. */
    private static final int CALLS_MOST = 512;
    /** Kinds that make programs go deep or long are drawn more often. */
    private static final int[] KINDS = {
        0, 1, 1, 2, 3, 4, 5, 6, 7, 7, 7, 8, 8, 8, 8, 8, 9, 9, 9, 9, 10, 11, 12, 13, 14, 14, 15, 15,
        15, 16, 16, 17, 18, 18
    };

    /** Drawn from in some programs alone: no others come to 100 PAIRS. */
    private static final int[] KINDS_WITH_PAIRS = {1, 9, 9, 9, 9, 9, 9, 9, 9, 15, 16, 14, 8, 8};

    private final Check check;
    private final Random random;
    private final int[] kinds;
    private final int program;
    private final int[] seen;
    private final DeepStacks x = new DeepStacks();
    private final Model model = new Model();
    private int made;
    private int calls;

    private ModelTest(Check check, int program, int[] seen) {
        this.check = check;
        this.program = program;
        this.seen = seen;
        random = new Random(program);
        kinds = program % 4 == 0 ? KINDS_WITH_PAIRS : KINDS;
    }

    public static void main(String[] args) {
        Check check = new Check();
        int[] seen = new int[8];
        for (int program = 0; program < PROGRAMS; program++) {
            new ModelTest(check, program, seen).tryOne();
        }
        for (int outcome = 0; outcome < seen.length; outcome++) {
            check.due("some RUN told " + outcome, seen[outcome] > 0 ? 1 : 0, 1);
        }
        check.end();
    }

    private void due(String call, long got, long want) {
        calls++;
        check.due("program " + program + ", call " + calls + ": " + call, got, want);
    }

    private void tryOne() {
        int wanted = 5 + random.nextInt(100);
        for (int i = 0; i < wanted; i++) {
            addExpression();
        }
        for (int function = 0; function < 6; function++) {
            if (random.nextInt(8) != 0) {
                changeBody(function);
            }
        }
        while (calls < CALLS_MOST - 60) {
            if (random.nextInt(4) == 0) {
                int n = random.nextInt(23) - 1;
                due("room(" + n + ")", x.room(n), model.room(n));
            }
            if (random.nextInt(3) == 0) {
                changeBody(random.nextInt(7));
            }
            if (random.nextInt(5) == 0) {
                addExpression();
            }
            tryRun();
        }
    }

    private void addExpression() {
        int kind = random.nextInt(60) == 0 ? random.nextInt(23) - 2 : kinds[random.nextInt(kinds.length)];
        int a = kind == 0 ? smallNumber() : kind == 1 ? random.nextInt(2)
            : kind == 8 ? random.nextInt(6) : somePart();
        int b = somePart();
        int c = kind == 15 ? (random.nextBoolean() ? 9 : random.nextInt(6)) : somePart();
        if (random.nextInt(40) == 0) {
            a = random.nextInt(12) - 2;
        }
        if (random.nextInt(40) == 0) {
            c = random.nextInt(12) - 2;
        }
        int got = x.expression(kind, a, b, c);
        due("expression(" + kind + ", " + a + ", " + b + ", " + c + ")", got, model.expression(kind, a, b, c));
        due("height(" + got + ")", x.height(got), model.height(got));
        made = Math.max(made, got + 1);
    }

    private int somePart() {
        if (random.nextInt(50) == 0) {
            return made;
        }
        int back = random.nextBoolean() ? 12 : made;
        return Math.max(0, made - 1 - random.nextInt(Math.max(1, back)));
    }

    private int smallNumber() {
        int[] edges = {Integer.MIN_VALUE, Integer.MAX_VALUE, -1, 0};
        return random.nextInt(6) == 0 ? edges[random.nextInt(4)] : random.nextInt(5);
    }

    /** Of the greater EXPRESSIONS, so that there is something to work. */
    private void changeBody(int function) {
        int expression = somePart();
        for (int i = 0; i < 6; i++) {
            int other = somePart();
            if (model.height(other) > model.height(expression)) {
                expression = other;
            }
        }
        due("body(" + function + ", " + expression + ")", x.body(function, expression),
            model.body(function, expression));
    }

    private void tryRun() {
        int function = random.nextInt(30) == 0 ? random.nextInt(9) - 1 : random.nextInt(6);
        int m = smallNumber();
        int n = smallNumber();
        int got = x.run(function, m, n);
        due("run(" + function + ", " + m + ", " + n + ")", got, model.run(function, m, n));
        if (got >= 0 && got <= 7) {
            seen[got]++;
        }
        for (int what = 0; what <= 8; what++) {
            due("told(" + what + ")", x.told(what), model.told(what));
        }
        due("length()", x.length(), model.length());
        lookAtNotes();
        lookAtPlaces();
    }

    private void lookAtNotes() {
        int last = Math.min(model.told(4), 13);
        for (int i = last - random.nextInt(5); i <= last; i++) {
            Integer want = model.note(i);
            boolean thrown = false;
            int got = 0;
            try {
                got = x.note(i);
            } catch (NoSuchElementException e) {
                thrown = true;
            }
            due("note(" + i + ") throws", thrown ? 1 : 0, want == null ? 1 : 0);
            check.due("note(" + i + ")", got, want == null ? 0 : want);
        }
    }

    private void lookAtPlaces() {
        int places = model.told(3) == 0 ? 1 : 8;
        for (int i = 0; i < places; i++) {
            long path = random.nextLong();
            int n = i == 0 ? 0 : random.nextInt(1 + Math.min(60, model.told(3)));
            if (random.nextInt(4) == 0) {
                path = -1L >>> random.nextInt(64);
            }
            boolean is = model.hasPlace(path, n);
            Object want = is ? model.place(path, n) : null;
            int sort = !is ? -1 : want == null ? 0 : want instanceof Integer ? 1 : 2;
            due("sort(" + path + ", " + n + ")", x.sort(path, n), sort);
            due("number(" + path + ", " + n + ")", numberOrThrow(path, n),
                sort == 1 ? (Integer) want : sort == 2 ? 1L << 40 : 1L << 41);
        }
    }

    private long numberOrThrow(long path, int n) {
        try {
            return x.number(path, n);
        } catch (ClassCastException e) {
            return 1L << 40;
        } catch (NullPointerException e) {
            return 1L << 41;
        }
    }
}
