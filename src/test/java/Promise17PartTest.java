/** Promise 17, part(): tile 0 .. 65535, part and parts 0 .. 255, bytes 0 .. 65536; 14 bytes. */
public final class Promise17PartTest {
    private static final int MOST = 2147483647;
    private static final int LEAST = -2147483648;

    public static void main(String[] args) throws ReflectiveOperationException {
        Check.runAll(Promise17PartTest.class);
    }

    private static void taken(int tile, int part, int parts, int bytes) {
        Counted x = Made.with(Made::rich);
        x.part(tile, part, parts, bytes);
        int[] due = new Bytes().part(tile, 14L + bytes, part, parts).mark(147).toArray();
        Check.same("at(-1)", x.at(-1), 3 + 14);
        for (int k = 0; k < 14; k++) {
            Check.same("at(" + k + ")", x.at(3 + k), due[k]);
        }
        Check.same("before", x.at(2), 7);
    }

    private static void refused(int tile, int part, int parts, int bytes) {
        String what = "part(" + tile + ", " + part + ", " + parts + ", " + bytes + ")";
        Twin.argument(what, x -> x.part(tile, part, parts, bytes), Made::nothing, Made::rich,
                Made::scanned);
        Check.refuses(what + " in a full one", IllegalArgumentException.class,
                () -> Made.with(Made::full).part(tile, part, parts, bytes));
    }

    static void tileFromZeroTo65535() {
        taken(0, 1, 2, 3);
        taken(255, 1, 2, 3);
        taken(256, 1, 2, 3);
        taken(65535, 1, 2, 3);
        refused(-1, 1, 2, 3);
        refused(65536, 1, 2, 3);
        refused(LEAST, 1, 2, 3);
        refused(MOST, 1, 2, 3);
    }

    static void partFromZeroTo255() {
        taken(1, 0, 2, 3);
        taken(1, 255, 2, 3);
        refused(1, -1, 2, 3);
        refused(1, 256, 2, 3);
        refused(1, LEAST, 2, 3);
        refused(1, MOST, 2, 3);
    }

    static void partsFromZeroTo255() {
        taken(1, 2, 0, 3);
        taken(1, 2, 255, 3);
        refused(1, 2, -1, 3);
        refused(1, 2, 256, 3);
        refused(1, 2, LEAST, 3);
        refused(1, 2, MOST, 3);
    }

    /** The part may be as great as parts, or greater: a scan says what is wrong then. */
    static void partNotBelowParts() {
        taken(0, 5, 5, 0);
        taken(0, 255, 1, 0);
    }

    static void bytesFromZeroTo65536() {
        taken(1, 2, 3, 0);
        taken(1, 2, 3, 1);
        taken(1, 2, 3, 65521);
        taken(1, 2, 3, 65522);
        taken(1, 2, 3, 65535);
        taken(1, 2, 3, 65536);
        refused(1, 2, 3, -1);
        refused(1, 2, 3, 65537);
        refused(1, 2, 3, LEAST);
        refused(1, 2, 3, MOST);
    }

    static void roomForFourteen() {
        Counted x = new Counted();
        Made.filledTo(x, Made.MOST_BYTES - 14);
        x.part(1, 2, 3, 0);
        Check.same("at(-1)", x.at(-1), Made.MOST_BYTES);
        Check.same("the last", x.at(Made.MOST_BYTES - 1), 147);
        for (int less = 0; less <= 13; less++) {
            int size = Made.MOST_BYTES - less;
            Counted y = new Counted();
            Made.filledTo(y, size);
            Check.refuses("room of " + less, UnsupportedOperationException.class,
                    () -> y.part(1, 2, 3, 0));
            Check.same("none put", y.at(-1), size);
        }
        Twin.full("room of 13", z -> z.part(0, 0, 0, 0),
                z -> Made.filledTo(z, Made.MOST_BYTES - 13));
        Twin.full("scanned", z -> z.part(0, 0, 0, 0), Made::fullAndScanned,
                z -> Made.scannedOf(z, Made.MOST_BYTES - 13));
    }

    /** "(without those bytes)": they need no room yet. */
    static void theBytesThemselvesNeedNoRoom() {
        Counted x = new Counted();
        Made.filledTo(x, Made.MOST_BYTES - 14);
        x.part(0, 0, 0, 65536);
        Check.same("at(-1)", x.at(-1), Made.MOST_BYTES);
        Check.same("span", x.at(Made.MOST_BYTES - 7), 1);
    }

    static void noNumberComesBeforeNoRoom() {
        Twin.argument("full", x -> x.part(-1, 0, 0, 0), Made::full);
        Twin.argument("full and scanned", x -> x.part(0, 0, 0, 65537), Made::fullAndScanned);
    }

    static void thePlanAndThePlaceStay() {
        Twin.planAndPlaceStay("refused", x -> x.part(0, 0, 0, 0), Made::rich);
        Twin.planAndPlaceStay("scanned", x -> x.part(0, 0, 0, 0), Made::scanned);
    }

    static void notScannedAnyMore() {
        Counted x = Made.with(Made::scanned);
        x.part(0, 0, 0, 0);
        Check.refuses("found", IllegalStateException.class, () -> x.found(-1, 0));
    }
}
