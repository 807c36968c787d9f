/** Promise 7, coding(): levels 0 .. 32, bw and bh 2 .. 10 and together 12, style 0 .. 63. */
public final class Promise07CodingTest {
    private static final int MOST = 2147483647;
    private static final int LEAST = -2147483648;

    public static void main(String[] args) throws ReflectiveOperationException {
        Check.runAll(Promise07CodingTest.class);
    }

    private static void taken(int levels, int bw, int bh, int style, boolean exact) {
        Counted x = Made.with(Made::rich);
        for (int c = 1; c >= 0; c--) {
            x.coding(c, levels, bw, bh, style, exact);
            int[] due = {levels, bw, bh, style, exact ? 1 : 0};
            for (int i = 0; i < due.length; i++) {
                Check.same("get(" + (24 + i) + ")", x.get(24 + i, c, 0), due[i]);
            }
        }
    }

    private static void refused(int levels, int bw, int bh, int style) {
        String what = "coding(" + levels + ", " + bw + ", " + bh + ", " + style + ")";
        Twin.argument(what, x -> x.coding(0, levels, bw, bh, style, false), Made::small,
                Made::scanned);
        Twin.argument(what, x -> x.coding(1, levels, bw, bh, style, true), Made::rich);
    }

    static void theComponentIsThere() {
        Twin.none("of none", x -> x.coding(0, 0, 6, 6, 0, true), Made::nothing);
        Twin.none("-1", x -> x.coding(-1, 0, 6, 6, 0, true), Made::rich, Made::great);
        Twin.none("2 of 2", x -> x.coding(2, 0, 6, 6, 0, true), Made::rich, Made::scanned);
        Twin.none("16 of 16", x -> x.coding(16, 0, 6, 6, 0, true), Made::great);
        Twin.none("greatest", x -> x.coding(MOST, 0, 6, 6, 0, true), Made::great);
        Twin.none("least", x -> x.coding(LEAST, 0, 6, 6, 0, true), Made::great);
        Twin.none("behind plan()", x -> x.coding(0, 0, 6, 6, 0, true), x -> {
            Made.rich(x);
            x.plan();
        });
        Counted x = Made.with(Made::great);
        x.coding(15, 1, 2, 3, 4, false);
        Check.same("15 of 16", x.get(26, 15, 0), 3);
        Check.same("14 stays", x.get(26, 14, 0), 6);
    }

    static void noComponentComesBeforeNoValue() {
        Twin.none("of none", x -> x.coding(0, 33, 6, 6, 0, true), Made::nothing);
        Twin.none("2 of 2", x -> x.coding(2, 0, 1, 6, 64, true), Made::rich);
    }

    static void levelsFromZeroTo32() {
        taken(0, 6, 6, 0, true);
        taken(32, 6, 6, 0, false);
        refused(-1, 6, 6, 0);
        refused(33, 6, 6, 0);
        refused(LEAST, 6, 6, 0);
        refused(MOST, 6, 6, 0);
    }

    static void bwFromTwoToTen() {
        taken(1, 2, 2, 0, true);
        taken(1, 10, 2, 0, true);
        refused(1, 1, 2, 0);
        refused(1, 11, 2, 0);
        refused(1, 11, 1, 0);
        refused(1, 0, 2, 0);
        refused(1, LEAST, 2, 0);
        refused(1, MOST, 2, 0);
    }

    static void bhFromTwoToTen() {
        taken(1, 3, 2, 0, true);
        taken(1, 2, 10, 0, true);
        refused(1, 2, 1, 0);
        refused(1, 2, 11, 0);
        refused(1, 1, 11, 0);
        refused(1, 2, 0, 0);
        refused(1, 2, LEAST, 0);
        refused(1, 2, MOST, 0);
    }

    static void bwAndBhTogetherTwelveAtMost() {
        for (int bw = 2; bw <= 10; bw++) {
            taken(1, bw, 12 - bw, 0, true);
            refused(1, bw, 13 - bw, 0);
        }
        refused(1, 10, 10, 0);
        // Together these would be small, by the wrap-around.
        refused(1, MOST, MOST, 0);
        refused(1, LEAST, LEAST, 0);
    }

    static void styleBelow64() {
        taken(1, 6, 6, 0, true);
        taken(1, 6, 6, 63, false);
        refused(1, 6, 6, -1);
        refused(1, 6, 6, 64);
        refused(1, 6, 6, LEAST);
        refused(1, 6, 6, MOST);
    }

    /** Also those that fewer levels don't need: they are there when the levels come back. */
    static void precinctsStepsAndShiftStay() {
        Counted x = Made.with(Made::rich);
        x.coding(1, 0, 6, 6, 0, true);
        int[][] due = {{29, 0, 2}, {30, 0, 5}, {31, 0, 17}, {32, 2, 3}, {33, 2, 4}, {32, 32, 5},
            {33, 32, 6}, {34, 12, 40000}, {34, 96, 1}};
        for (int[] d : due) {
            Check.same("get(" + d[0] + ")", x.get(d[0], 1, d[1]), d[2]);
        }
        x.coding(1, 32, 6, 6, 0, true);
        for (int[] d : due) {
            Check.same("again get(" + d[0] + ")", x.get(d[0], 1, d[1]), d[2]);
        }
    }

    static void theStreamStays() {
        Twin.streamStays("coding", x -> x.coding(0, 9, 6, 6, 0, true), Made::scanned);
    }
}
