/** Promise 14, put(): a byte 0 .. 255, and 65536 of them. */
public final class Promise14PutTest {
    public static void main(String[] args) throws ReflectiveOperationException {
        Check.runAll(Promise14PutTest.class);
    }

    static void aByteFromZeroTo255() {
        Counted x = new Counted();
        for (int b = 0; b <= 255; b++) {
            Check.same("put", x.put(b), b + 1);
        }
        for (int b = 0; b <= 127; b++) {
            Check.same("at", x.at(2 * b), 2 * b);
        }
        Check.same("at(255)", x.at(255), 255);
        int[] bad = {-1, 256, 65536, 511, -256, -2147483648, 2147483647};
        for (int b : bad) {
            Twin.argument("put(" + b + ")", y -> y.put(b), Made::nothing, Made::rich,
                    Made::scanned);
        }
    }

    static void theLastOf65536() {
        Counted x = new Counted();
        Made.filledTo(x, Made.MOST_BYTES - 2);
        Check.same("the last but one", x.put(1), Made.MOST_BYTES - 1);
        Check.same("the last", x.put(2), Made.MOST_BYTES);
        Check.refuses("one more", UnsupportedOperationException.class, () -> x.put(3));
        Check.same("at(65534)", x.at(Made.MOST_BYTES - 2), 1);
        Check.same("at(65535)", x.at(Made.MOST_BYTES - 1), 2);
        Check.same("at(-1)", x.at(-1), Made.MOST_BYTES);
    }

    static void aFullStreamStays() {
        Twin.full("put(0)", x -> x.put(0), Made::full);
        Twin.full("put(255)", x -> x.put(255), Made::fullAndScanned);
    }

    static void noByteComesBeforeNoRoom() {
        Twin.argument("put(256)", x -> x.put(256), Made::full);
        Twin.argument("put(-1)", x -> x.put(-1), Made::fullAndScanned);
    }

    static void notScannedAnyMore() {
        Counted x = Made.with(Made::scanned);
        int size = x.at(-1);
        Check.same("put", x.put(0), size + 1);
        Check.refuses("found", IllegalStateException.class, () -> x.found(-1, 0));
    }

    static void thePlanAndThePlaceStay() {
        Twin.planAndPlaceStay("refused", x -> x.put(0), Made::rich);
        Twin.planAndPlaceStay("scanned", x -> x.put(0), Made::scanned);
    }
}
