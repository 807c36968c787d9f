import java.util.NoSuchElementException;

/** Promise 15, at(): a byte, or how many there are. */
public final class Promise15AtTest {
    private static final int MOST = 2147483647;
    private static final int LEAST = -2147483648;

    public static void main(String[] args) throws ReflectiveOperationException {
        Check.runAll(Promise15AtTest.class);
    }

    static void anEmptyStreamHasNone() {
        Check.same("at(-1)", new Counted().at(-1), 0);
        Twin.none("at(0)", x -> x.at(0), Made::nothing);
        Twin.none("at(-2)", x -> x.at(-2), Made::nothing);
    }

    static void fromTheFirstToTheLast() {
        Counted x = Made.with(Made::rich);
        Check.same("at(-1)", x.at(-1), 3);
        Check.same("at(0)", x.at(0), 255);
        Check.same("at(1)", x.at(1), 79);
        Check.same("at(2)", x.at(2), 7);
        int[] none = {3, 4, -2, -3, 255, 65535, 65536, MOST, LEAST};
        for (int k : none) {
            Twin.none("at(" + k + ")", y -> y.at(k), Made::rich);
        }
        int size = Made.streamOfTwoTiles().size();
        Check.same("the last", Made.with(Made::scanned).at(size - 1), 217);
        Twin.none("behind it", y -> y.at(size), Made::scanned);
        Twin.none("-2", y -> y.at(-2), Made::scanned);
    }

    static void theLastOf65536() {
        Counted x = Made.with(Made::fullAndScanned);
        Check.same("at(-1)", x.at(-1), Made.MOST_BYTES);
        Check.same("at(65535)", x.at(65535), 217);
        Check.same("at(65534)", x.at(65534), 255);
        Check.same("at(0)", x.at(0), 255);
        Twin.none("at(65536)", y -> y.at(65536), Made::fullAndScanned);
        Twin.none("at(-2)", y -> y.at(-2), Made::fullAndScanned);
    }

    /** The bytes of before are not there, though the row had them. */
    static void noneOfThoseThatWereCleared() {
        Counted x = Made.with(Made::scanned);
        x.clear();
        x.put(1);
        Check.same("at(0)", x.at(0), 1);
        Check.refuses("at(1)", NoSuchElementException.class, () -> x.at(1));
        Check.same("at(-1)", x.at(-1), 1);
    }

    static void askingChangesNothing() {
        Twin.streamStays("at(-1)", x -> x.at(-1), Made::scanned);
        Twin.streamStays("at(0)", x -> x.at(0), Made::scanned);
        Twin.planAndPlaceStay("at(0)", x -> x.at(0), Made::rich);
    }
}
