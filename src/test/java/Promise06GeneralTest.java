/** Promise 6, general(): order 0 .. 4, layers 1 .. 255. */
public final class Promise06GeneralTest {
    private static final int MOST = 2147483647;
    private static final int LEAST = -2147483648;

    public static void main(String[] args) throws ReflectiveOperationException {
        Check.runAll(Promise06GeneralTest.class);
    }

    private static void taken(int order, int layers, boolean colour, boolean ahead,
            boolean behind) {
        Use[] states = {Made::nothing, Made::rich, Made::scanned};
        for (Use state : states) {
            Counted x = Made.with(state);
            int changes = x.get(14, 0, 0);
            x.general(order, layers, colour, ahead, behind);
            int[] due = {order, layers, colour ? 1 : 0, ahead ? 1 : 0, behind ? 1 : 0, changes};
            for (int i = 0; i < due.length; i++) {
                Check.same("get(" + (9 + i) + ")", x.get(9 + i, 0, 0), due[i]);
            }
        }
    }

    private static void refused(int order, int layers) {
        String what = "general(" + order + ", " + layers + ")";
        Twin.argument(what, x -> x.general(order, layers, true, true, true), Made::nothing);
        Twin.argument(what, x -> x.general(order, layers, false, true, false), Made::rich,
                Made::scanned);
    }

    static void orderFromZeroToFour() {
        for (int order = 0; order <= 4; order++) {
            taken(order, 9, true, false, false);
        }
        refused(-1, 9);
        refused(5, 9);
        refused(LEAST, 9);
        refused(MOST, 9);
    }

    static void layersFromOneTo255() {
        taken(2, 1, false, true, false);
        taken(2, 255, false, false, true);
        refused(2, 0);
        refused(2, 256);
        refused(2, -1);
        refused(2, 65536 + 1);
        refused(2, LEAST);
        refused(2, MOST);
    }

    /** A stream may not tell more than 255 either, but tells all of them. */
    static void layersThatAScanReadMayBe255() {
        Counted x = new Bytes().start(1, 1).segment(82, 0, 0, 0, 255, 0, 0, 4, 4, 0, 1).steps()
                .barePart(0, 0, 0).end().feed(new Counted());
        Check.same("scan", x.scan(), 0);
        Check.same("layers", x.get(10, 0, 0), 255);
    }

    static void theStreamStays() {
        Twin.streamStays("general", x -> x.general(0, 1, false, false, false), Made::scanned);
    }
}
