/** Promise 19, spoil(): a byte that is there becomes the lowest 8 bits of any number. */
public final class Promise19SpoilTest {
    private static final int MOST = 2147483647;
    private static final int LEAST = -2147483648;

    public static void main(String[] args) throws ReflectiveOperationException {
        Check.runAll(Promise19SpoilTest.class);
    }

    static void anEmptyStreamHasNone() {
        Twin.none("spoil(0)", x -> x.spoil(0, 1), Made::nothing);
        Twin.none("spoil(-1)", x -> x.spoil(-1, 1), Made::nothing);
        Twin.none("cleared", x -> x.spoil(0, 1), x -> {
            Made.scanned(x);
            x.clear();
        });
    }

    static void fromTheFirstToTheLast() {
        Counted x = Made.with(Made::rich);
        x.spoil(0, 1);
        x.spoil(2, 3);
        Check.same("at(0)", x.at(0), 1);
        Check.same("at(1)", x.at(1), 79);
        Check.same("at(2)", x.at(2), 3);
        Check.same("at(-1)", x.at(-1), 3);
        int[] none = {-1, -2, 3, 4, 65535, 65536, LEAST, MOST};
        for (int k : none) {
            Twin.none("spoil(" + k + ")", y -> y.spoil(k, 1), Made::rich);
        }
        int size = Made.streamOfTwoTiles().size();
        Twin.none("behind the last", y -> y.spoil(size, 1), Made::scanned);
        Twin.none("-1", y -> y.spoil(-1, 1), Made::scanned);
    }

    static void theLastOf65536() {
        Counted x = Made.with(Made::full);
        x.spoil(65535, 200);
        Check.same("at(65535)", x.at(65535), 200);
        Check.same("at(-1)", x.at(-1), Made.MOST_BYTES);
        Twin.none("spoil(65536)", y -> y.spoil(65536, 1), Made::full, Made::fullAndScanned);
    }

    static void theLowest8Bits() {
        int[][] due = {{0, 0}, {255, 255}, {256, 0}, {257, 1}, {511, 255}, {-1, 255}, {-256, 0},
            {-257, 255}, {-255, 1}, {127, 127}, {128, 128}, {MOST, 255}, {LEAST, 0},
            {LEAST + 7, 7}};
        Counted x = Made.with(Made::rich);
        for (int[] d : due) {
            x.spoil(1, d[0]);
            Check.same("spoil " + d[0], x.at(1), d[1]);
            Check.same("before it", x.at(0), 255);
            Check.same("behind it", x.at(2), 7);
        }
    }

    /** Also if the byte was the same before. */
    static void notScannedAnyMore() {
        Counted x = Made.with(Made::scanned);
        x.spoil(0, 255);
        Check.refuses("found", IllegalStateException.class, () -> x.found(-1, 0));
        Check.same("scan", x.scan(), 0);
        x.spoil(0, 0);
        Check.refuses("use", IllegalStateException.class, () -> x.use(0));
        Check.same("refused", x.scan(), 2);
        x.spoil(0, 255);
        Check.refuses("head", IllegalStateException.class, () -> x.head(1, 0));
        Check.same("scan again", x.scan(), 0);
        Check.same("found", x.found(-1, 0), 3);
    }

    static void thePlanAndThePlaceStay() {
        Twin.planAndPlaceStay("refused", x -> x.spoil(0, 0), Made::rich);
        Twin.planAndPlaceStay("scanned", x -> x.spoil(0, 0), Made::scanned);
    }
}
