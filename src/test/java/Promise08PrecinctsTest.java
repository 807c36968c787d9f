/** Promise 8, precincts(): level 0 .. 32; exponents 0 .. 15, but above level 0 not 0. */
public final class Promise08PrecinctsTest {
    private static final int MOST = 2147483647;
    private static final int LEAST = -2147483648;

    public static void main(String[] args) throws ReflectiveOperationException {
        Check.runAll(Promise08PrecinctsTest.class);
    }

    private static void taken(int r, int pw, int ph) {
        Counted x = Made.with(Made::rich);
        x.precincts(0, r, pw, ph);
        Check.same("pw", x.get(32, 0, r), pw);
        Check.same("ph", x.get(33, 0, r), ph);
        for (int other = 0; other <= 32; other++) {
            if (other != r) {
                Check.same("pw of another", x.get(32, 0, other), 15);
                Check.same("ph of another", x.get(33, 0, other), 15);
            }
        }
        Check.same("pw of the other component", x.get(32, 1, 2), 3);
        Check.same("levels", x.get(24, 0, 0), 0);
    }

    private static void refused(int r, int pw, int ph) {
        String what = "precincts(" + r + ", " + pw + ", " + ph + ")";
        Twin.argument(what, x -> x.precincts(0, r, pw, ph), Made::small, Made::scanned);
        Twin.argument(what, x -> x.precincts(1, r, pw, ph), Made::rich);
    }

    static void theComponentIsThere() {
        Twin.none("of none", x -> x.precincts(0, 0, 1, 1), Made::nothing);
        Twin.none("-1", x -> x.precincts(-1, 0, 1, 1), Made::rich);
        Twin.none("2 of 2", x -> x.precincts(2, 0, 1, 1), Made::rich, Made::scanned);
        Twin.none("16 of 16", x -> x.precincts(16, 0, 1, 1), Made::great);
        Twin.none("greatest", x -> x.precincts(MOST, 0, 1, 1), Made::rich);
        Twin.none("least", x -> x.precincts(LEAST, 0, 1, 1), Made::rich);
        Counted x = Made.with(Made::great);
        x.precincts(15, 0, 1, 2);
        Check.same("15 of 16", x.get(33, 15, 0), 2);
    }

    static void noComponentComesBeforeNoValue() {
        Twin.none("level", x -> x.precincts(0, -1, 1, 1), Made::nothing);
        Twin.none("exponent", x -> x.precincts(2, 1, 0, 16), Made::rich);
    }

    static void levelFromZeroTo32() {
        taken(0, 7, 8);
        taken(32, 8, 7);
        refused(-1, 7, 8);
        refused(33, 7, 8);
        refused(LEAST, 7, 8);
        refused(MOST, 7, 8);
    }

    static void exponentsOfLevelZeroFromZeroTo15() {
        taken(0, 0, 15);
        taken(0, 15, 0);
        taken(0, 0, 0);
        refused(0, -1, 5);
        refused(0, 5, -1);
        refused(0, 16, 5);
        refused(0, 5, 16);
        refused(0, LEAST, 5);
        refused(0, 5, MOST);
    }

    static void exponentsAboveLevelZeroFromOneTo15() {
        int[] levels = {1, 2, 31, 32};
        for (int r : levels) {
            taken(r, 1, 15);
            taken(r, 15, 1);
            refused(r, 0, 5);
            refused(r, 5, 0);
            refused(r, 0, 0);
            refused(r, 16, 5);
            refused(r, 5, 16);
            refused(r, -1, 5);
            refused(r, 5, -1);
        }
    }

    /** Of a level that the coding doesn't need it is kept, too. */
    static void levelsAboveThoseOfTheCoding() {
        Counted x = Made.with(Made::small);
        x.precincts(0, 1, 3, 4);
        Check.same("write", x.write(), Made.SMALL_BYTES);
        x.coding(0, 1, 6, 6, 0, true);
        Check.same("pw", x.get(32, 0, 1), 3);
        Check.same("ph", x.get(33, 0, 1), 4);
    }

    static void theStreamStays() {
        Twin.streamStays("precincts", x -> x.precincts(0, 0, 1, 1), Made::scanned);
    }
}
