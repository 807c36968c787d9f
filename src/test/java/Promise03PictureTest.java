/** Promise 3, picture(): 0 <= x0 < x1 <= 2^31 - 1, y likewise; then one tile. */
public final class Promise03PictureTest {
    private static final int MOST = 2147483647;
    private static final int LEAST = -2147483648;

    public static void main(String[] args) throws ReflectiveOperationException {
        Check.runAll(Promise03PictureTest.class);
    }

    private static void taken(int x0, int y0, int x1, int y1) {
        Use[] states = {Made::nothing, Made::rich, Made::scanned};
        for (Use state : states) {
            Counted x = Made.with(state);
            int components = x.get(8, 0, 0);
            x.picture(x0, y0, x1, y1);
            int[] due = {x0, y0, x1, y1, 0, 0, x1, y1, components};
            for (int what = 0; what < due.length; what++) {
                Check.same("get(" + what + ")", x.get(what, 0, 0), due[what]);
            }
        }
    }

    private static void refused(int x0, int y0, int x1, int y1) {
        String what = "picture(" + x0 + ", " + y0 + ", " + x1 + ", " + y1 + ")";
        Twin.argument(what, x -> x.picture(x0, y0, x1, y1), Made::nothing, Made::rich,
                Made::scanned);
    }

    static void x0IsZeroOrMore() {
        taken(0, 1, 4, 5);
        refused(-1, 1, 4, 5);
        refused(LEAST, 1, 4, 5);
    }

    static void y0IsZeroOrMore() {
        taken(1, 0, 4, 5);
        refused(1, -1, 4, 5);
        refused(1, LEAST, 4, 5);
    }

    static void x0IsBelowX1() {
        taken(3, 1, 4, 5);
        refused(4, 1, 4, 5);
        refused(5, 1, 4, 5);
        refused(MOST, 1, 4, 5);
    }

    static void y0IsBelowY1() {
        taken(1, 4, 4, 5);
        refused(1, 5, 4, 5);
        refused(1, 6, 4, 5);
        refused(1, MOST, 4, 5);
    }

    static void x1IsOneAtLeast() {
        taken(0, 0, 1, 5);
        refused(0, 0, 0, 5);
        refused(0, 0, -1, 5);
        refused(0, 0, LEAST, 5);
    }

    static void y1IsOneAtLeast() {
        taken(0, 0, 4, 1);
        refused(0, 0, 4, 0);
        refused(0, 0, 4, -1);
        refused(0, 0, 4, LEAST);
    }

    static void x1AndY1AreBelowTwoTo31() {
        taken(0, 0, MOST, 1);
        taken(0, 0, 1, MOST);
        taken(MOST - 1, MOST - 1, MOST, MOST);
        refused(MOST, 0, MOST, 1);
        refused(0, MOST, 1, MOST);
        // 2^31 is no int: it would come as the least one.
        refused(0, 0, MOST + 1, 1);
        refused(0, 0, 1, MOST + 1);
    }

    /** Also if x0, y0 are not 0, and if there were other tiles. */
    static void tilesAreOneOfTheWholePicture() {
        Counted x = new Counted();
        x.picture(10, 20, 30, 40);
        x.tiles(9, 19, 5, 6);
        x.picture(11, 21, 31, 41);
        int[] due = {0, 0, 31, 41};
        for (int i = 0; i < 4; i++) {
            Check.same("get(" + (4 + i) + ")", x.get(4 + i, 0, 0), due[i]);
        }
    }

    static void behindARefusedOneThereIsNoPicture() {
        Counted x = new Counted();
        x.component(8, false, 1, 1);
        Check.refuses("picture", IllegalArgumentException.class, () -> x.picture(0, 0, 0, 0));
        Check.refuses("tiles", IllegalStateException.class, () -> x.tiles(0, 0, 1, 1));
        Check.refuses("write", IllegalStateException.class, x::write);
        x.picture(0, 0, 1, 1);
        Check.same("write", x.write(), Made.SMALL_BYTES);
    }

    static void theStreamStays() {
        Twin.streamStays("picture", x -> x.picture(0, 0, 1, 1), Made::rich);
        Twin.streamStays("picture", x -> x.picture(0, 0, 1, 1), Made::scanned);
    }
}
