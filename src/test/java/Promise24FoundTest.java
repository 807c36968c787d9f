/** Promise 24, found(): the parts of a scanned stream, in order. */
public final class Promise24FoundTest {
    private static final int MOST = 2147483647;
    private static final int LEAST = -2147483648;

    public static void main(String[] args) throws ReflectiveOperationException {
        Check.runAll(Promise24FoundTest.class);
    }

    private static void check(String what, Bytes bytes, int[]... due) {
        Counted x = bytes.feed(new Counted());
        Check.same(what + ": scan", x.scan(), 0);
        Check.same(what + ": found(-1)", x.found(-1, 0), due.length);
        for (int k = 0; k < due.length; k++) {
            for (int i = 0; i < 5; i++) {
                Check.same(what + ": found(" + k + ", " + i + ")", x.found(k, i), due[k][i]);
            }
        }
    }

    private static int[] part(int... numbers) {
        return numbers;
    }

    static void notScanned() {
        Twin.state("new", x -> x.found(-1, 0), Made::nothing);
        Twin.state("refused", x -> x.found(0, 0), Made::rich);
        Twin.state("no part either", x -> x.found(-2, 5), Made::nothing, Made::rich);
        Twin.state("spoiled", x -> x.found(-1, 0), x -> {
            Made.scanned(x);
            x.spoil(0, 255);
        });
        Twin.state("refused by a later scan", x -> x.found(-1, 0), x -> {
            Made.scanned(x);
            x.spoil(0, 0);
            x.scan();
        });
    }

    static void howManyForAnyWhat() {
        Counted x = Made.with(Made::scanned);
        int[] any = {0, 4, 5, -1, 99, MOST, LEAST};
        for (int what : any) {
            Check.same("found(-1, " + what + ")", x.found(-1, what), 3);
        }
    }

    static void thePartIsThere() {
        Counted x = Made.with(Made::scanned);
        Check.same("the first", x.found(0, 0), 1);
        Check.same("the last", x.found(2, 1), 1);
        int[] none = {3, 4, -2, 255, 256, MOST, LEAST, 613566757, 1227133514};
        for (int k : none) {
            Twin.none("found(" + k + ")", y -> y.found(k, 0), Made::scanned);
        }
    }

    static void whatFromZeroTo4() {
        Counted x = Made.with(Made::scanned);
        int[][] due = {{1, 0, 2, 128, 0}, {0, 0, 0, 142, 0}, {1, 1, 0, 156, 2}};
        for (int k = 0; k < 3; k++) {
            for (int what = 0; what <= 4; what++) {
                Check.same("found(" + k + ", " + what + ")", x.found(k, what), due[k][what]);
            }
        }
        int[] none = {-1, 5, 6, 7, MOST, LEAST};
        for (int what : none) {
            Twin.none("found(0, " + what + ")", y -> y.found(0, what), Made::scanned);
            Twin.none("found(2, " + what + ")", y -> y.found(2, what), Made::scanned);
        }
    }

    static void theOnlyPart() {
        check("no bytes", new Bytes().main(1, 1).barePart(0, 0, 0).end(), part(0, 0, 0, 79, 0));
        check("one byte", new Bytes().main(1, 1).part(0, 15, 0, 1).mark(147).u1(8).end(),
                part(0, 0, 1, 79, 1));
        Twin.none("found(1)", x -> x.found(1, 0), x -> {
            new Bytes().main(1, 1).barePart(0, 0, 0).end().feed(x);
            x.scan();
        });
    }

    /** Behind the segments and DATA; marks among the bytes are bytes. */
    static void theFirstByteIsBehindData() {
        check("segments", new Bytes().main(1, 1).part(0, 14 + 6 + 2 + 4, 0, 0).segment(100, 1, 2)
                .mark(48).mark(147).mark(147).mark(217).end(), part(0, 0, 0, 87, 4));
    }

    static void spanZeroGoesUpToEnd() {
        check("no bytes", new Bytes().main(1, 1).part(0, 0, 0, 0).mark(147).end(),
                part(0, 0, 0, 79, 0));
        check("three bytes", new Bytes().main(1, 1).part(0, 0, 0, 0).mark(147).u1(255, 217, 0)
                .end(), part(0, 0, 0, 79, 3));
        check("another END", new Bytes().main(1, 1).part(0, 0, 0, 0).mark(147).end().end(),
                part(0, 0, 0, 79, 2));
        check("behind another part", new Bytes().main(2, 1).part(1, 16, 0, 0).mark(147).u1(5, 6)
                .part(0, 0, 0, 0).segment(100).mark(147).u1(7).end(),
                part(1, 0, 0, 79, 2), part(0, 0, 0, 99, 1));
    }

    /** What is behind END is of no part. */
    static void notWhatIsBehindEnd() {
        check("a part behind END", new Bytes().main(1, 1).barePart(0, 0, 0).end()
                .barePart(0, 1, 0).end(), part(0, 0, 0, 79, 0));
    }

    /** Each part tells its own number of parts, 0 if it told none. */
    static void partsAsEachTold() {
        check("0, 3, 0", new Bytes().main(1, 1).barePart(0, 0, 0).barePart(0, 1, 3)
                .barePart(0, 2, 0).end(), part(0, 0, 0, 79, 0), part(0, 1, 3, 93, 0),
                part(0, 2, 0, 107, 0));
    }

    static void theLastOf256() {
        Use state = x -> {
            Made.small(x);
            x.write();
            for (int n = 0; n < 256; n++) {
                x.part(0, n, 0, 0);
            }
            x.mark(217);
            x.scan();
        };
        Counted x = Made.with(state);
        Check.same("how many", x.found(-1, 0), 256);
        Check.same("part", x.found(255, 1), 255);
        Check.same("place", x.found(255, 3), 65 + 256 * 14);
        Check.same("bytes", x.found(255, 4), 0);
        Check.refuses("part 256", java.util.NoSuchElementException.class,
                () -> x.found(256, 0));
        Check.refuses("part -2", java.util.NoSuchElementException.class, () -> x.found(-2, 0));
    }

    static void ofAFullStream() {
        Counted x = Made.with(Made::fullAndScanned);
        Check.same("how many", x.found(-1, 0), 1);
        Check.same("place", x.found(0, 3), Made.GREAT_BYTES + 14);
        Check.same("bytes", x.found(0, 4), Made.MOST_BYTES - Made.GREAT_BYTES - 16);
    }

    static void askingChangesNothing() {
        Twin.streamStays("found", x -> x.found(0, 0), Made::scanned);
        Twin.planAndPlaceStay("found", x -> x.found(-1, 0), Made::scanned);
    }

    /** Of a stream with fewer parts than the one before. */
    static void nothingOfAnEarlierStream() {
        Counted x = Made.with(Made::scanned);
        new Bytes().main(1, 1).part(0, 16, 0, 1).mark(147).u1(1, 2).end().feed(x);
        Check.same("scan", x.scan(), 0);
        Check.same("how many", x.found(-1, 0), 1);
        Check.same("bytes", x.found(0, 4), 2);
        Check.refuses("part 1", java.util.NoSuchElementException.class, () -> x.found(1, 0));
    }
}
