import java.util.NoSuchElementException;

/** Promise 23, head(): the bytes of 97, or those of 96 dealt to the parts. */
public final class Promise23HeadTest {
    private static final int MOST = 2147483647;
    private static final int LEAST = -2147483648;

    public static void main(String[] args) throws ReflectiveOperationException {
        Check.runAll(Promise23HeadTest.class);
    }

    private static void check(String what, Bytes bytes, int[]... due) {
        Counted x = bytes.feed(new Counted());
        Check.same(what + ": scan", x.scan(), 0);
        for (int tile = 0; tile < due.length; tile++) {
            int t = tile;
            int count = due[t].length;
            Check.same(what + ": use(" + t + ")", x.use(t), count);
            for (int i = 0; i < count; i++) {
                Check.same(what + ": head(" + t + ", " + i + ")", x.head(t, i), due[t][i]);
            }
            Check.refuses(what + ": behind the last", NoSuchElementException.class,
                    () -> x.head(t, count));
            Check.refuses(what + ": -1", NoSuchElementException.class, () -> x.head(t, -1));
        }
        Check.refuses(what + ": no such tile", NoSuchElementException.class,
                () -> x.head(due.length, 0));
    }

    private static int[] row(int... bytes) {
        return bytes;
    }

    static void notScanned() {
        Twin.state("new", x -> x.head(0, 0), Made::nothing);
        Twin.state("refused", x -> x.head(0, 0), Made::rich);
        Twin.state("no tile either", x -> x.head(-1, -1), Made::nothing, Made::rich);
        Twin.state("spoiled", x -> x.head(1, 0), x -> {
            Made.scanned(x);
            x.spoil(0, 255);
        });
    }

    static void theTileIsThere() {
        Check.same("head(1, 0)", Made.with(Made::scanned).head(1, 0), 10);
        int[] none = {2, -1, 64, 65, MOST, LEAST};
        for (int tile : none) {
            Twin.none("tile " + tile, x -> x.head(tile, 0), Made::scanned,
                    Made::scannedHeadsOfAll);
        }
    }

    static void theByteIsThere() {
        Counted x = Made.with(Made::scanned);
        Check.same("the first", x.head(1, 0), 10);
        Check.same("the last", x.head(1, 1), 11);
        int[] none = {2, 3, -1, -2, MOST, LEAST};
        for (int i : none) {
            Twin.none("byte " + i, y -> y.head(1, i), Made::scanned);
            Twin.none("byte " + i + " of none", y -> y.head(0, i), Made::scanned);
            Twin.none("byte " + i + " of all", y -> y.head(1, i), Made::scannedHeadsOfAll);
        }
        Twin.none("byte 0 of none", y -> y.head(0, 0), Made::scanned);
        Counted z = Made.with(Made::scannedHeadsOfAll);
        Check.same("of all, tile 1", z.head(1, 1), 32);
        Check.same("of all, tile 0", z.head(0, 0), 33);
        Twin.none("of all, behind tile 0's", y -> y.head(0, 1), Made::scannedHeadsOfAll);
    }

    /** The plan is not asked for, and stays. */
    static void askingChangesNothing() {
        Twin.streamStays("head", x -> x.head(1, 0), Made::scanned);
        Twin.planAndPlaceStay("head", x -> x.head(1, 0), Made::scanned);
        Counted x = Made.with(Made::scanned);
        x.plan();
        Check.same("behind plan()", x.head(1, 1), 11);
    }

    static void noHeads() {
        check("none", new Bytes().main(2, 1).barePart(0, 0, 0).barePart(1, 0, 0).end(), row(),
                row());
        check("97 without bytes", new Bytes().main(1, 1).part(0, 24, 0, 0).segment(97, 0)
                .segment(97, 1).mark(147).end(), row());
        check("96 without bytes", new Bytes().main(1, 1).segment(96, 0).barePart(0, 0, 0).end(),
                row());
    }

    /** In order, over segments and parts, with other tiles between. */
    static void ofSegments97() {
        check("97", new Bytes().main(2, 1)
                .part(0, 14 + 6 + 5 + 6, 0, 0).segment(97, 0, 1).segment(97, 1).segment(97, 2, 2)
                .mark(147)
                .part(1, 14 + 7, 0, 0).segment(97, 0, 255, 0).mark(147)
                .barePart(0, 1, 0)
                .part(0, 14 + 4 + 7, 2, 0).segment(100).segment(97, 3, 3, 4).mark(147)
                .part(1, 14 + 6 + 1, 1, 0).segment(97, 1, 128).mark(147).u1(9).end(),
                row(1, 2, 3, 4), row(255, 0, 128));
    }

    /** Three parts: of tile 1, of tile 0, of tile 1 again. */
    private static Bytes ofAll(int... heads) {
        int[] told = new int[1 + heads.length];
        System.arraycopy(heads, 0, told, 1, heads.length);
        return new Bytes().main(2, 1).segment(96, told).barePart(1, 0, 0).barePart(0, 0, 0)
                .barePart(1, 1, 2).end();
    }

    static void ofSegments96() {
        check("all", ofAll(0, 0, 0, 2, 7, 8, 0, 0, 0, 3, 1, 2, 3, 0, 0, 0, 1, 9),
                row(1, 2, 3), row(7, 8, 9));
        check("none of the first", ofAll(0, 0, 0, 0, 0, 0, 0, 1, 5, 0, 0, 0, 1, 6),
                row(5), row(6));
        check("none of any", ofAll(0, 0, 0, 0, 0, 0, 0, 0, 0, 0, 0, 0), row(), row());
        check("more than there are parts",
                ofAll(0, 0, 0, 1, 4, 0, 0, 0, 1, 5, 0, 0, 0, 1, 6, 0, 0, 0, 1, 7),
                row(5), row(4, 6));
    }

    /** Numbers and bytes go on over the segments. */
    static void ofSegments96CutAnywhere() {
        int[] heads = {0, 0, 0, 2, 7, 8, 0, 0, 0, 3, 1, 2, 3, 0, 0, 0, 1, 9};
        for (int cut = 0; cut <= heads.length; cut++) {
            Bytes one = new Bytes().u1(0);
            Bytes two = new Bytes().u1(1);
            for (int k = 0; k < heads.length; k++) {
                (k < cut ? one : two).u1(heads[k]);
            }
            check("cut at " + cut, new Bytes().start(2, 1).segment(96, one.toArray()).coding()
                    .segment(96, two.toArray()).steps().segment(96, 2).barePart(1, 0, 0)
                    .barePart(0, 0, 0).barePart(1, 1, 2).end(), row(1, 2, 3), row(7, 8, 9));
        }
    }

    /** "as many as there are, if they end before" */
    static void theyEndBefore() {
        check("all but one", ofAll(0, 0, 0, 3, 1, 2), row(), row(1, 2));
        check("just all", ofAll(0, 0, 0, 2, 1, 2), row(), row(1, 2));
        check("none of nine", ofAll(0, 0, 0, 9), row(), row());
        check("in the second", ofAll(0, 0, 0, 1, 4, 0, 0, 0, 9, 5, 6), row(5, 6), row(4));
        check("in the third", ofAll(0, 0, 0, 1, 4, 0, 0, 0, 1, 5, 0, 0, 0, 2, 6), row(5),
                row(4, 6));
    }

    /** "none, if there are fewer than four" */
    static void fewerThanFour() {
        check("one", ofAll(9), row(), row());
        check("three", ofAll(0, 0, 0), row(), row());
        check("three behind the first", ofAll(0, 0, 0, 1, 4, 0, 0, 0), row(), row(4));
        check("three behind the second", ofAll(0, 0, 0, 1, 4, 0, 0, 0, 1, 5, 1, 1, 1), row(5),
                row(4));
        check("four", ofAll(0, 0, 0, 1, 4, 0, 0, 0, 1, 5, 0, 0, 0, 1), row(5), row(4));
        check("five", ofAll(0, 0, 0, 1, 4, 0, 0, 0, 1, 5, 0, 0, 0, 1, 6), row(5), row(4, 6));
    }

    /** "U4 n (without sign)" */
    static void aNumberWithoutSign() {
        check("2^31 - 1", ofAll(127, 255, 255, 255, 1, 2), row(), row(1, 2));
        check("2^31", ofAll(128, 0, 0, 0, 1, 2), row(), row(1, 2));
        check("2^32 - 1", ofAll(255, 255, 255, 255, 1, 2), row(), row(1, 2));
        check("2^32 - 4", ofAll(255, 255, 255, 252, 1, 2), row(), row(1, 2));
        check("2^31 of the second", ofAll(0, 0, 0, 1, 4, 128, 0, 0, 0, 5, 6), row(5, 6), row(4));
        check("256", ofAll(0, 0, 1, 0, 1, 2), row(), row(1, 2));
        check("65536", ofAll(0, 1, 0, 0, 1, 2), row(), row(1, 2));
    }

    /** A part takes what its number says, not what another part of its tile leaves. */
    static void twoHundredAndFiftySixBytesOfOne() {
        Bytes heads = new Bytes().u1(0).u4(256);
        for (int k = 0; k < 256; k++) {
            heads.u1(255 - k);
        }
        heads.u4(1).u1(77);
        Counted x = new Bytes().main(2, 1).segment(96, heads.toArray()).barePart(0, 0, 0)
                .barePart(1, 0, 0).end().feed(new Counted());
        Check.same("scan", x.scan(), 0);
        Check.same("use(0)", x.use(0), 256);
        Check.same("the first", x.head(0, 0), 255);
        Check.same("the last", x.head(0, 255), 0);
        Check.refuses("no more", NoSuchElementException.class, () -> x.head(0, 256));
        Check.same("use(1)", x.use(1), 1);
        Check.same("of tile 1", x.head(1, 0), 77);
    }

    /** The stream before had heads; this one has none, or others. */
    static void nothingOfAnEarlierStream() {
        Counted x = Made.with(Made::scannedHeadsOfAll);
        new Bytes().main(2, 1).barePart(1, 0, 0).barePart(0, 0, 0).end().feed(x);
        Check.same("scan", x.scan(), 0);
        Check.same("use(1)", x.use(1), 0);
        Check.refuses("none", NoSuchElementException.class, () -> x.head(1, 0));
        Made.streamOfTwoTiles().feed(x);
        Check.same("scan", x.scan(), 0);
        Check.same("use(1)", x.use(1), 2);
        Check.same("head(1, 0)", x.head(1, 0), 10);
        ofAll(0, 0, 0, 1, 4, 0, 0, 0, 1, 5).feed(x);
        Check.same("scan", x.scan(), 0);
        Check.same("use(1)", x.use(1), 1);
        Check.same("head(1, 0)", x.head(1, 0), 4);
        Check.same("head(0, 0)", x.head(0, 0), 5);
    }

    /** Each scan deals them anew. */
    static void scannedTwice() {
        Twin.streamStays("97", x -> Check.same("scan", x.scan(), 0), Made::scanned);
        Twin.streamStays("96", x -> Check.same("scan", x.scan(), 0), Made::scannedHeadsOfAll);
    }

    /** The scan before was refused behind heads that it had read. */
    static void nothingOfARefusedScan() {
        Counted x = ofAll(0, 0, 0, 1, 4, 0, 0, 0, 1, 5).feed(new Counted());
        x.spoil(x.at(-1) - 1, 216);
        Check.same("refused", x.scan(), 1);
        x.spoil(x.at(-1) - 1, 217);
        Check.same("taken", x.scan(), 0);
        Check.same("use(1)", x.use(1), 1);
        Check.same("head(1, 0)", x.head(1, 0), 4);
        Check.same("head(0, 0)", x.head(0, 0), 5);
    }
}
