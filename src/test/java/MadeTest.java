/** The states that the tests begin with are what they say. */
public final class MadeTest {
    public static void main(String[] args) throws ReflectiveOperationException {
        Check.runAll(MadeTest.class);
    }

    static void smallAndGreat() {
        Check.same("small", Made.with(Made::small).write(), Made.SMALL_BYTES);
        Check.same("great", Made.with(Made::great).write(), Made.GREAT_BYTES);
        Check.same("16 components", Made.with(Made::great).get(8, 0, 0), 16);
        Check.same("32 changes", Made.with(Made::great).get(14, 0, 0), 32);
    }

    static void richWasRefused() {
        Counted x = Made.with(Made::rich);
        Check.same("place", x.place(), 2);
        Check.same("bytes", x.at(-1), 3);
        Check.refuses("found", IllegalStateException.class, () -> x.found(-1, 0));
    }

    static void scannedOnesWereTaken() {
        Use[] states = {Made::scanned, Made::scannedHeadsOfAll, Made::fullAndScanned,
            x -> Made.scannedOf(x, 65436)};
        int[] sizes = {Made.streamOfTwoTiles().size(), 65 + 16 + 28 + 2, 65536, 65436};
        int[] parts = {3, 2, 1, 1};
        for (int i = 0; i < states.length; i++) {
            Counted x = Made.with(states[i]);
            Check.same("parts", x.found(-1, 0), parts[i]);
            Check.same("bytes of state " + i, x.at(-1), sizes[i]);
            Check.same("place", x.place(), -1);
        }
    }

    static void filledOnesHaveTheirSize() {
        int[] sizes = {65536, 65535, 65522, 65471, 5000};
        for (int size : sizes) {
            Counted x = new Counted();
            Made.filledTo(x, size);
            Check.same("bytes", x.at(-1), size);
        }
    }
}
