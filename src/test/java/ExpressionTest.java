/** Promise 2: expression. */
final class ExpressionTest {
    private static final int UNKNOWN = DeepStacks.UNKNOWN, OUTSIDE = DeepStacks.OUTSIDE;
    private static final int MIN = Integer.MIN_VALUE, MAX = Integer.MAX_VALUE;
    /** Of each kind: which of a, b, c are parts, as bits 0, 1, 2. */
    private static final int[] PARTS = {0, 0, 3, 3, 3, 3, 3, 7, 6, 3, 1, 1, 0, 1, 3, 3, 3, 1, 1};

    public static void main(String[] args) {
        Check check = new Check();
        for (int kind = 0; kind < PARTS.length; kind++) {
            partsOfKind(check, kind);
            heightsOfKind(check, kind);
        }
        numbersThatAreNoParts(check);
        kindsOutside(check);
        firstRefusalCounts(check);
        fullOfExpressions(check);
        fullOfHeight(check);
        check.end();
    }

    private static void due(Check check, DeepStacks x, int[] given, int want) {
        String call = "expression(" + given[0] + ", " + given[1] + ", " + given[2] + ", " + given[3] + ")";
        check.due(call, x.expression(given[0], given[1], given[2], given[3]), want);
    }

    private static void partsOfKind(Check check, int kind) {
        DeepStacks x = new DeepStacks();
        due(check, x, new int[] {12, MIN, MAX, -1}, 0);
        due(check, x, new int[] {12, 0, 0, 0}, 1);
        due(check, x, new int[] {kind, 1, 1, 1}, 2);
        int count = 3;
        for (int place = 0; place < 3; place++) {
            boolean isPart = (PARTS[kind] >> place & 1) == 1;
            boolean isOther = place == 0 && (kind == 1 || kind == 8) || place == 2 && kind == 15;
            if (isOther) {
                continue;
            }
            for (int named : new int[] {-1, count, count + 1, MIN, MAX}) {
                int[] given = {kind, 1, 1, 1};
                given[place + 1] = named;
                boolean known = !isPart || named >= 0 && named < count;
                due(check, x, given, known ? count++ : UNKNOWN);
            }
        }
        check.due("height(" + count + ") behind refusals", x.height(count), UNKNOWN);
    }

    /** One part of HEIGHT 7 is the last that is in order; what is no part may name any. */
    private static void heightsOfKind(Check check, int kind) {
        for (int place = 0; place < 3; place++) {
            DeepStacks x = new DeepStacks();
            due(check, x, new int[] {12, 0, 0, 0}, 0);
            due(check, x, new int[] {12, 0, 0, 0}, 1);
            for (int i = 2; i <= 8; i++) {
                due(check, x, new int[] {13, i - 1, 0, 0}, i);
            }
            boolean isPart = (PARTS[kind] >> place & 1) == 1;
            if (!isPart && (kind == 1 || kind == 8 || kind == 15)) {
                continue;
            }
            int[] given = {kind, 1, 1, 1};
            given[place + 1] = 8;
            due(check, x, given, isPart ? DeepStacks.FULL : 9);
            given[place + 1] = 7;
            due(check, x, given, isPart ? 9 : 10);
            int own = PARTS[kind] == 0 ? 1 : 2;
            check.due("height of kind " + kind, x.height(isPart ? 9 : 10), isPart ? 8 : own);
        }
    }

    private static void numbersThatAreNoParts(Check check) {
        DeepStacks x = new DeepStacks();
        due(check, x, new int[] {0, MIN, 0, 0}, 0);
        due(check, x, new int[] {1, -1, 0, 0}, OUTSIDE);
        due(check, x, new int[] {1, 2, 0, 0}, OUTSIDE);
        due(check, x, new int[] {1, 0, 0, 0}, 1);
        due(check, x, new int[] {1, 1, 0, 0}, 2);
        for (int function : new int[] {-1, 6, MIN, MAX}) {
            due(check, x, new int[] {8, function, 0, 0}, UNKNOWN);
        }
        due(check, x, new int[] {8, 0, 0, 0}, 3);
        due(check, x, new int[] {8, 5, 0, 0}, 4);
        for (int fault : new int[] {-1, 6, 7, 8, 10, MIN, MAX}) {
            due(check, x, new int[] {15, 0, 0, fault}, OUTSIDE);
        }
        for (int fault = 0; fault <= 5; fault++) {
            due(check, x, new int[] {15, 0, 0, fault}, 5 + fault);
        }
        due(check, x, new int[] {15, 0, 0, 9}, 11);
    }

    private static void kindsOutside(Check check) {
        DeepStacks x = new DeepStacks();
        for (int kind : new int[] {-1, 19, 20, MIN, MAX}) {
            due(check, x, new int[] {kind, 0, 0, 0}, OUTSIDE);
            due(check, x, new int[] {kind, -1, -1, -1}, OUTSIDE);
        }
        due(check, x, new int[] {12, 0, 0, 0}, 0);
    }

    private static void firstRefusalCounts(Check check) {
        DeepStacks x = new DeepStacks();
        due(check, x, new int[] {12, 0, 0, 0}, 0);
        due(check, x, new int[] {15, 0, 1, 6}, UNKNOWN);
        due(check, x, new int[] {15, 1, 0, 6}, UNKNOWN);
        for (int i = 1; i < 100; i++) {
            due(check, x, new int[] {0, i, 0, 0}, i);
        }
        due(check, x, new int[] {2, 0, 100, 0}, UNKNOWN);
        due(check, x, new int[] {8, 6, 0, 0}, UNKNOWN);
        due(check, x, new int[] {15, 0, 0, 6}, OUTSIDE);
        due(check, x, new int[] {1, 2, 0, 0}, OUTSIDE);
        due(check, x, new int[] {19, 0, 0, 0}, OUTSIDE);
        due(check, x, new int[] {15, 0, 0, 9}, DeepStacks.FULL);
    }

    private static void fullOfExpressions(Check check) {
        DeepStacks x = new DeepStacks();
        for (int i = 0; i < 100; i++) {
            due(check, x, new int[] {0, i, 0, 0}, i);
        }
        due(check, x, new int[] {0, 0, 0, 0}, DeepStacks.FULL);
        due(check, x, new int[] {12, 0, 0, 0}, DeepStacks.FULL);
        check.due("height(100)", x.height(100), UNKNOWN);
        check.due("body(0, 99)", x.body(0, 99), DeepStacks.NONE);
        check.due("run(0, 0, 0)", x.run(0, 0, 0), 0);
        check.due("number(0, 0)", x.number(0L, 0), 99);
    }

    private static void fullOfHeight(Check check) {
        DeepStacks x = new DeepStacks();
        due(check, x, new int[] {12, 0, 0, 0}, 0);
        for (int i = 1; i < 8; i++) {
            due(check, x, new int[] {13, i - 1, 0, 0}, i);
        }
        due(check, x, new int[] {13, 7, 0, 0}, DeepStacks.FULL);
        due(check, x, new int[] {7, 0, 0, 7}, DeepStacks.FULL);
        due(check, x, new int[] {8, 0, 0, 7}, DeepStacks.FULL);
        due(check, x, new int[] {15, 0, 7, 9}, DeepStacks.FULL);
        due(check, x, new int[] {15, 0, 7, 6}, OUTSIDE);
        due(check, x, new int[] {13, 6, 7, 7}, 8);
        due(check, x, new int[] {0, 7, 7, 7}, 9);
        due(check, x, new int[] {8, 5, 6, 6}, 10);
    }
}
