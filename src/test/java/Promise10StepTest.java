/** Promise 10, step(): value 0 .. 96 of the steps is a number 0 .. 65535. */
public final class Promise10StepTest {
    private static final int MOST = 2147483647;
    private static final int LEAST = -2147483648;

    public static void main(String[] args) throws ReflectiveOperationException {
        Check.runAll(Promise10StepTest.class);
    }

    private static void taken(int k, int value) {
        Counted x = Made.with(Made::rich);
        x.step(0, k, value);
        for (int other = 0; other <= 96; other++) {
            Check.same("value " + other, x.get(34, 0, other), other == k ? value : 0);
        }
        Check.same("of the other component", x.get(34, 1, 12), 40000);
        Check.same("kind", x.get(29, 0, 0), 0);
    }

    private static void refused(int k, int value) {
        String what = "step(" + k + ", " + value + ")";
        Twin.argument(what, x -> x.step(0, k, value), Made::small, Made::scanned);
        Twin.argument(what, x -> x.step(1, k, value), Made::rich);
    }

    static void theComponentIsThere() {
        Twin.none("of none", x -> x.step(0, 0, 0), Made::nothing);
        Twin.none("-1", x -> x.step(-1, 0, 0), Made::rich);
        Twin.none("2 of 2", x -> x.step(2, 0, 0), Made::rich, Made::scanned);
        Twin.none("16 of 16", x -> x.step(16, 0, 0), Made::great);
        Twin.none("greatest", x -> x.step(MOST, 0, 0), Made::rich);
        Twin.none("least", x -> x.step(LEAST, 0, 0), Made::rich);
        Counted x = Made.with(Made::great);
        x.step(15, 0, 9);
        Check.same("15 of 16", x.get(34, 15, 0), 9);
    }

    static void noComponentComesBeforeNoValue() {
        Twin.none("which", x -> x.step(0, 97, 0), Made::nothing);
        Twin.none("value", x -> x.step(2, 0, 65536), Made::rich);
    }

    static void whichFromZeroTo96() {
        taken(0, 5);
        taken(96, 5);
        refused(-1, 5);
        refused(97, 5);
        refused(LEAST, 5);
        refused(MOST, 5);
    }

    static void valueFromZeroTo65535() {
        taken(3, 1);
        taken(3, 65535);
        refused(3, -1);
        refused(3, 65536);
        refused(3, LEAST);
        refused(3, MOST);
        Counted x = Made.with(Made::rich);
        x.step(1, 12, 0);
        Check.same("0 again", x.get(34, 1, 12), 0);
    }

    /** Of kind 0 a value is kept whole, though its 256th part is written. */
    static void aValueOfKindZeroIsKeptWhole() {
        Counted x = Made.with(Made::small);
        x.step(0, 0, 511);
        x.write();
        Check.same("value", x.get(34, 0, 0), 511);
        Check.same("written", x.at(Made.SMALL_BYTES - 1), 1);
    }

    static void theStreamStays() {
        Twin.streamStays("step", x -> x.step(0, 0, 1), Made::scanned);
    }
}
