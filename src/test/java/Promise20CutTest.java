/** Promise 20, scan(), number 1: bytes that are beyond the end of the stream, or of the part. */
public final class Promise20CutTest {
    public static void main(String[] args) throws ReflectiveOperationException {
        Check.runAll(Promise20CutTest.class);
    }

    private static Bytes main1() {
        return new Bytes().main(1, 1);
    }

    static void anEmptyStream() {
        new Bytes().refused("empty", 1, 0);
        Counted x = Made.with(Made::scanned);
        x.clear();
        Check.same("cleared", x.scan(), 1);
        Check.same("place", x.place(), 0);
    }

    /** One byte is no mark, whatever it is; two are one. */
    static void bytesOfTheMark() {
        new Bytes().u1(255).refused("half of START", 1, 0);
        new Bytes().u1(79).refused("a byte that is not 255", 1, 0);
        new Bytes().u1(255, 79).refused("START alone", 1, 2);
        new Bytes().u1(255, 79, 255).refused("half of SIZE", 1, 2);
        new Bytes().u1(255, 79, 9).refused("another byte", 1, 2);
        main1().u1(255).refused("half of a main mark", 1, 65);
        main1().barePart(0, 0, 0).u1(255).refused("half of END", 1, 79);
        main1().barePart(0, 0, 0).end().accepted("END");
    }

    static void bytesOfTheLength() {
        new Bytes().u1(255, 79, 255, 81).refused("no length", 1, 2);
        new Bytes().u1(255, 79, 255, 81, 0).refused("half of a length", 1, 2);
        new Bytes().u1(255, 79, 255, 81, 0, 2).refused("a length", 3, 2);
        main1().u1(255, 100).refused("no length of a main segment", 1, 65);
        main1().u1(255, 100, 0).refused("half of it", 1, 65);
        main1().u1(255, 100, 0, 2).refused("all of it", 1, 69);
    }

    static void bytesThatTheLengthCounts() {
        main1().u1(255, 100, 0, 3).refused("one is not there", 1, 65);
        main1().u1(255, 100, 0, 3, 7).refused("all are there", 1, 70);
        main1().u1(255, 100, 255, 255, 7).refused("the greatest length", 1, 65);
        new Bytes().start(1, 1).cutTo(44).refused("SIZE without its last byte", 1, 2);
        new Bytes().start(1, 1).refused("SIZE", 1, 45);
    }

    /** A length of 0 or 1 counts less than itself: it is not cut, but wrong. */
    static void lengthsBelowTwoAreNotCut() {
        main1().u1(255, 100, 0, 0).refused("0 at the end", 3, 65);
        main1().u1(255, 100, 0, 1).refused("1 at the end", 3, 65);
    }

    /** These have no length: nothing behind them is missing. */
    static void marksWithoutASegment() {
        for (int m = 48; m <= 63; m++) {
            main1().mark(m).refused("mark " + m, 1, 67);
        }
        main1().mark(47).refused("47 has a length", 1, 65);
        main1().mark(64).refused("64 has a length", 1, 65);
        int[] others = {79, 146, 147};
        for (int m : others) {
            main1().mark(m).refused("mark " + m, 2, 65);
        }
        new Bytes().mark(217).refused("END first", 2, 0);
        int[] withLength = {0, 255, 78, 80, 81, 144, 145, 148, 216, 218};
        for (int m : withLength) {
            main1().mark(m).refused("mark " + m, 1, 65);
            main1().mark(m).u1(0).refused("mark " + m, 1, 65);
        }
    }

    /** Each beginning of a stream is refused at the mark, or the part, that lacks bytes. */
    static void eachBeginningOfAStream() {
        Bytes whole = Made.streamOfTwoTiles();
        int[] places = {0, 2, 48, 62, 68, 81, 89, 128, 142, 158};
        for (int size = 0; size < whole.size(); size++) {
            int due = 0;
            for (int place : places) {
                due = place <= size ? place : due;
            }
            new Bytes().add(whole).cutTo(size).refused("cut to " + size, 1, due);
        }
        Check.same("size", whole.size(), 160);
        whole.accepted("whole");
    }

    /** A segment of 9 bytes and DATA, in a part of each SPAN. */
    static void bytesBeyondTheEndOfThePart() {
        for (int span = 14; span <= 26; span++) {
            int place = span < 21 ? 77 : span < 23 ? 86 : span < 26 ? 65 + span : 65;
            Bytes x = main1().part(0, span, 0, 0).segment(100, 1, 2, 3, 4, 5).mark(147).end();
            x.refused("span " + span, span == 23 ? 0 : 1, span == 23 ? -1 : place);
        }
    }

    static void bytesOfAMarkWithoutASegmentBeyondThePart() {
        main1().part(0, 14, 0, 0).mark(48).mark(147).end().refused("DATA behind it", 1, 79);
        main1().part(0, 15, 0, 0).mark(48).mark(147).end().refused("half of DATA in it", 1, 79);
        main1().part(0, 16, 0, 0).mark(48).mark(147).end().accepted("DATA in it");
    }

    static void spanBeyondTheEndOfTheStream() {
        Bytes whole = main1().part(0, 16, 0, 0).mark(147).u1(1, 2);
        new Bytes().add(whole).refused("just to the end", 1, 81);
        new Bytes().add(whole).set(74, 0).set(73, 1).refused("256", 1, 65);
        new Bytes().add(whole).set(74, 17).refused("one byte beyond", 1, 65);
        new Bytes().add(whole).end().accepted("with END behind");
        long[] far = {0x7fffffffL, 0x80000000L, 0x80000010L, 0xfffffff0L, 0xffffffffL,
            0xffffffbfL};
        for (long span : far) {
            main1().part(0, span, 0, 0).mark(147).end().refused("span " + span, 1, 65);
        }
    }

    static void spanZeroNeedsAnEndBehindItsTwelveBytes() {
        main1().part(0, 0, 0, 0).refused("nothing behind", 1, 65);
        main1().part(0, 0, 0, 0).u1(255).refused("one byte behind", 1, 65);
        main1().part(0, 0, 0, 0).end().refused("END, but no DATA", 1, 77);
        main1().part(0, 0, 0, 0).u1(255).end().refused("half of DATA", 1, 77);
        main1().part(0, 0, 0, 0).mark(147).end().accepted("DATA and END");
        main1().part(0, 0, 0, 0).mark(147).refused("DATA at the end", 1, 65);
        main1().part(0, 0, 0, 0).mark(147).u1(255, 216).refused("216 at the end", 1, 65);
        main1().part(0, 0, 0, 0).mark(147).u1(254, 217).refused("254 at the end", 1, 65);
        main1().part(0, 0, 0, 0).mark(147).end().u1(0).refused("a byte behind END", 1, 65);
        // The bytes 255 and 217 are the last ones, but one of them is of the PART.
        main1().part(0, 0, 0, 255).u1(217).refused("END that begins in PART", 1, 65);
    }

    /** With SPAN 0 the part goes up to END, so segments may not take bytes of it. */
    static void spanZeroEndsBeforeEnd() {
        main1().part(0, 0, 0, 0).segment(100, 1).mark(147).end().accepted("a segment");
        main1().part(0, 0, 0, 0).u1(255, 100, 0, 3).end().refused("of END", 1, 77);
        main1().part(0, 0, 0, 0).u1(255, 100, 0, 3, 1).end().refused("DATA is END", 1, 82);
        main1().part(0, 0, 0, 0).u1(255, 100, 0).end().refused("length of END", 1, 77);
    }

    static void whatIsBehindEndDoesNotCount() {
        main1().barePart(0, 0, 0).end().u1(255).accepted("a byte");
        main1().barePart(0, 0, 0).end().mark(144).u2(10).accepted("half a part");
        main1().barePart(0, 0, 0).end().mark(81).u2(0).accepted("a wrong mark");
        main1().part(0, 0x10, 0, 0).mark(147).end().end().accepted("END as bytes of a part");
    }

    static void aStreamOf65536Bytes() {
        Counted x = Made.with(Made::fullAndScanned);
        Check.same("scan", x.scan(), 0);
        Check.same("bytes", x.found(0, 4), Made.MOST_BYTES - Made.GREAT_BYTES - 16);
        x.spoil(Made.GREAT_BYTES + 9, x.at(Made.GREAT_BYTES + 9) + 2);
        Check.same("to the end", x.scan(), 1);
        Check.same("place", x.place(), Made.MOST_BYTES);
        x.spoil(Made.GREAT_BYTES + 9, x.at(Made.GREAT_BYTES + 9) + 1);
        Check.same("beyond", x.scan(), 1);
        Check.same("place", x.place(), Made.GREAT_BYTES);
        int[] zero = {6, 7, 8, 9};
        for (int k : zero) {
            x.spoil(Made.GREAT_BYTES + k, 0);
        }
        Check.same("span 0", x.scan(), 0);
        Check.same("bytes", x.found(0, 4), Made.MOST_BYTES - Made.GREAT_BYTES - 16);
    }
}
