/** Promise 9, steps(): kind 0 .. 2, guard 0 .. 7, shift 0 .. 37. */
public final class Promise09StepsTest {
    private static final int MOST = 2147483647;
    private static final int LEAST = -2147483648;

    public static void main(String[] args) throws ReflectiveOperationException {
        Check.runAll(Promise09StepsTest.class);
    }

    private static void taken(int kind, int guard, int shift) {
        Counted x = Made.with(Made::rich);
        for (int c = 0; c < 2; c++) {
            x.steps(c, kind, guard, shift);
            Check.same("kind", x.get(29, c, 0), kind);
            Check.same("guard", x.get(30, c, 0), guard);
            Check.same("shift", x.get(31, c, 0), shift);
        }
    }

    private static void refused(int kind, int guard, int shift) {
        String what = "steps(" + kind + ", " + guard + ", " + shift + ")";
        Twin.argument(what, x -> x.steps(0, kind, guard, shift), Made::small, Made::scanned);
        Twin.argument(what, x -> x.steps(1, kind, guard, shift), Made::rich);
    }

    static void theComponentIsThere() {
        Twin.none("of none", x -> x.steps(0, 0, 0, 0), Made::nothing);
        Twin.none("-1", x -> x.steps(-1, 0, 0, 0), Made::rich);
        Twin.none("2 of 2", x -> x.steps(2, 0, 0, 0), Made::rich, Made::scanned);
        Twin.none("16 of 16", x -> x.steps(16, 0, 0, 0), Made::great);
        Twin.none("greatest", x -> x.steps(MOST, 0, 0, 0), Made::rich);
        Twin.none("least", x -> x.steps(LEAST, 0, 0, 0), Made::rich);
        Counted x = Made.with(Made::great);
        x.steps(15, 1, 6, 33);
        Check.same("15 of 16", x.get(31, 15, 0), 33);
    }

    static void noComponentComesBeforeNoValue() {
        Twin.none("kind", x -> x.steps(0, 3, 0, 0), Made::nothing);
        Twin.none("shift", x -> x.steps(2, 0, 8, 38), Made::rich);
    }

    static void kindFromZeroToTwo() {
        taken(0, 3, 4);
        taken(1, 3, 4);
        taken(2, 3, 4);
        refused(-1, 3, 4);
        refused(3, 3, 4);
        refused(LEAST, 3, 4);
        refused(MOST, 3, 4);
    }

    static void guardFromZeroToSeven() {
        taken(1, 0, 4);
        taken(1, 7, 4);
        refused(1, -1, 4);
        refused(1, 8, 4);
        refused(1, LEAST, 4);
        refused(1, MOST, 4);
    }

    static void shiftFromZeroTo37() {
        taken(1, 3, 0);
        taken(1, 3, 37);
        refused(1, 3, -1);
        refused(1, 3, 38);
        refused(1, 3, LEAST);
        refused(1, 3, MOST);
    }

    static void theValuesStay() {
        Counted x = Made.with(Made::rich);
        int[] kinds = {1, 0, 2};
        for (int kind : kinds) {
            x.steps(1, kind, 0, 0);
            Check.same("value 12", x.get(34, 1, 12), 40000);
            Check.same("value 96", x.get(34, 1, 96), 1);
        }
    }

    static void theStreamStays() {
        Twin.streamStays("steps", x -> x.steps(0, 1, 1, 1), Made::scanned);
    }
}
