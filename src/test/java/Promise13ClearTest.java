import java.util.NoSuchElementException;

/** Promise 13, clear(): an empty stream that is not scanned. */
public final class Promise13ClearTest {
    public static void main(String[] args) throws ReflectiveOperationException {
        Check.runAll(Promise13ClearTest.class);
    }

    private static void checkEmpty(String when, Counted x) {
        Check.same(when + " at(-1)", x.at(-1), 0);
        Check.refuses(when + " at(0)", NoSuchElementException.class, () -> x.at(0));
        Check.refuses(when + " spoil(0)", NoSuchElementException.class, () -> x.spoil(0, 1));
        checkNotScanned(when, x);
    }

    private static void checkNotScanned(String when, Counted x) {
        Check.refuses(when + " use", IllegalStateException.class, () -> x.use(0));
        Check.refuses(when + " head", IllegalStateException.class, () -> x.head(1, 0));
        Check.refuses(when + " found", IllegalStateException.class, () -> x.found(-1, 0));
    }

    static void anEmptyStreamStaysEmpty() {
        Counted x = new Counted();
        x.clear();
        checkEmpty("new", x);
        Check.same("place", x.place(), -1);
        x.put(4);
        x.clear();
        x.clear();
        checkEmpty("twice", x);
    }

    static void aScannedStreamIsGone() {
        Counted x = Made.with(Made::scanned);
        Check.same("scanned", x.found(-1, 0), 3);
        x.clear();
        checkEmpty("scanned", x);
        Check.same("scan", x.scan(), 1);
        Check.same("place", x.place(), 0);
    }

    static void aFullStreamIsGone() {
        Counted x = Made.with(Made::full);
        Check.refuses("full", UnsupportedOperationException.class, () -> x.put(1));
        x.clear();
        checkEmpty("full", x);
        Check.same("put", x.put(9), 1);
        Check.same("at(0)", x.at(0), 9);
        Check.refuses("at(1)", NoSuchElementException.class, () -> x.at(1));
    }

    /** As many bytes as before can be put. */
    static void thereIsRoomForAllAgain() {
        Counted x = Made.with(Made::full);
        x.clear();
        int most = Made.MOST_BYTES / Made.GREAT_BYTES;
        for (int n = 1; n <= most; n++) {
            Check.same("write", x.write(), Made.GREAT_BYTES);
        }
        Check.refuses("one more", UnsupportedOperationException.class, x::write);
        Check.same("at(-1)", x.at(-1), most * Made.GREAT_BYTES);
    }

    static void thePlanAndThePlaceStay() {
        Twin.planAndPlaceStay("refused", Counted::clear, Made::rich);
        Twin.planAndPlaceStay("scanned", Counted::clear, Made::scanned);
    }

    /** "so it is behind put, write, part, mark and spoil that did not throw" */
    static void notScannedBehindPutWritePartMarkAndSpoil() {
        Use[] calls = {x -> x.put(0), Counted::write, x -> x.part(0, 0, 0, 0),
            x -> x.mark(217), x -> x.spoil(0, 255)};
        String[] names = {"put", "write", "part", "mark", "spoil"};
        for (int i = 0; i < calls.length; i++) {
            Counted x = Made.with(Made::scanned);
            calls[i].on(x);
            checkNotScanned(names[i], x);
            Counted y = Made.with(Made::scannedHeadsOfAll);
            calls[i].on(y);
            checkNotScanned(names[i], y);
        }
    }

    /** All of these put behind END, or the byte that was there: a scan takes the stream again. */
    static void scannedAgainByAScan() {
        Use[] calls = {x -> x.put(0), Counted::write, x -> x.part(0, 0, 0, 0),
            x -> x.mark(217), x -> x.spoil(0, 255)};
        for (Use call : calls) {
            Counted x = Made.with(Made::scanned);
            call.on(x);
            Check.same("scan", x.scan(), 0);
            Check.same("found", x.found(-1, 0), 3);
        }
    }
}
