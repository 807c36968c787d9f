/** Promise 18, mark(): a mark 0 .. 255, of two bytes. */
public final class Promise18MarkTest {
    public static void main(String[] args) throws ReflectiveOperationException {
        Check.runAll(Promise18MarkTest.class);
    }

    static void aMarkFromZeroTo255() {
        Counted x = new Counted();
        int[] marks = {0, 1, 47, 48, 63, 64, 79, 127, 128, 217, 254, 255};
        for (int m : marks) {
            x.mark(m);
            int size = x.at(-1);
            Check.same("255", x.at(size - 2), 255);
            Check.same("the mark", x.at(size - 1), m);
        }
        Check.same("at(-1)", x.at(-1), 2 * marks.length);
        int[] bad = {-1, 256, 65536, 2147483647, -2147483648};
        for (int m : bad) {
            Twin.argument("mark(" + m + ")", y -> y.mark(m), Made::nothing, Made::rich,
                    Made::scanned);
        }
    }

    static void roomForTwo() {
        Counted x = new Counted();
        Made.filledTo(x, Made.MOST_BYTES - 2);
        x.mark(9);
        Check.same("at(-1)", x.at(-1), Made.MOST_BYTES);
        Check.same("the last", x.at(Made.MOST_BYTES - 1), 9);
        Twin.full("room of 1", y -> y.mark(9), y -> Made.filledTo(y, Made.MOST_BYTES - 1));
        Twin.full("room of 0", y -> y.mark(9), Made::full, Made::fullAndScanned);
        Twin.full("room of 1, scanned", y -> y.mark(9),
                y -> Made.scannedOf(y, Made.MOST_BYTES - 1));
    }

    static void aByteStillFitsWhereAMarkDoesNot() {
        Counted x = new Counted();
        Made.filledTo(x, Made.MOST_BYTES - 1);
        Check.refuses("mark", UnsupportedOperationException.class, () -> x.mark(217));
        Check.same("put", x.put(5), Made.MOST_BYTES);
    }

    static void noMarkComesBeforeNoRoom() {
        Twin.argument("mark(256)", x -> x.mark(256), Made::full);
        Twin.argument("mark(-1)", x -> x.mark(-1), Made::fullAndScanned);
    }

    static void thePlanAndThePlaceStay() {
        Twin.planAndPlaceStay("refused", x -> x.mark(217), Made::rich);
        Twin.planAndPlaceStay("scanned", x -> x.mark(217), Made::scanned);
    }

    static void notScannedAnyMore() {
        Counted x = Made.with(Made::scanned);
        x.mark(217);
        Check.refuses("found", IllegalStateException.class, () -> x.found(-1, 0));
    }
}
