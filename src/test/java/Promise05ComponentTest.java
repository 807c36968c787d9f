/** Promise 5, component(): bits 1 .. 38, dx and dy 1 .. 255, 16 of them. */
public final class Promise05ComponentTest {
    private static final int MOST = 2147483647;
    private static final int LEAST = -2147483648;

    public static void main(String[] args) throws ReflectiveOperationException {
        Check.runAll(Promise05ComponentTest.class);
    }

    private static void taken(int bits, boolean signed, int dx, int dy) {
        Counted x = Made.with(Made::rich);
        Check.same("number", x.component(bits, signed, dx, dy), 2);
        Check.same("how many", x.get(8, 0, 0), 3);
        int[] due = {bits, signed ? 1 : 0, dx, dy, 0, 6, 6, 0, 1, 0, 2, 0};
        for (int i = 0; i < due.length; i++) {
            Check.same("get(" + (20 + i) + ")", x.get(20 + i, 2, 0), due[i]);
        }
    }

    private static void refused(int bits, int dx, int dy) {
        String what = "component(" + bits + ", " + dx + ", " + dy + ")";
        Twin.argument(what, x -> x.component(bits, true, dx, dy), Made::nothing, Made::rich,
                Made::scanned);
        Twin.argument(what + " as a 17th", x -> x.component(bits, false, dx, dy), Made::great);
    }

    static void bitsFromOneTo38() {
        taken(1, false, 1, 1);
        taken(38, true, 1, 1);
        refused(0, 1, 1);
        refused(39, 1, 1);
        refused(-1, 1, 1);
        refused(LEAST, 1, 1);
        refused(MOST, 1, 1);
    }

    static void dxFromOneTo255() {
        taken(8, false, 1, 7);
        taken(8, true, 255, 7);
        refused(8, 0, 7);
        refused(8, 256, 7);
        refused(8, -1, 7);
        refused(8, LEAST, 7);
        refused(8, MOST, 7);
    }

    static void dyFromOneTo255() {
        taken(8, true, 7, 1);
        taken(8, false, 7, 255);
        refused(8, 7, 0);
        refused(8, 7, 256);
        refused(8, 7, -1);
        refused(8, 7, LEAST);
        refused(8, 7, MOST);
    }

    static void sixteenOfThem() {
        Counted x = new Counted();
        for (int c = 0; c < 16; c++) {
            Check.same("number", x.component(1 + c, c % 2 == 1, 1 + c, 255 - c), c);
        }
        Check.refuses("a 17th", IllegalStateException.class, () -> x.component(8, true, 1, 1));
        Check.same("how many", x.get(8, 0, 0), 16);
        for (int c = 0; c < 16; c++) {
            Check.same("bits", x.get(20, c, 0), 1 + c);
            Check.same("signed", x.get(21, c, 0), c % 2);
            Check.same("dx", x.get(22, c, 0), 1 + c);
            Check.same("dy", x.get(23, c, 0), 255 - c);
        }
        Twin.state("a 17th", y -> y.component(8, false, 1, 1), Made::great);
    }

    static void thoseThatAScanReadCount() {
        Use fifteen = x -> {
            new Bytes().main(1, 15).barePart(0, 0, 0).end().feed(x);
            x.scan();
        };
        Counted x = Made.with(fifteen);
        Check.same("a 16th", x.component(8, false, 1, 1), 15);
        Check.refuses("a 17th", IllegalStateException.class, () -> x.component(8, false, 1, 1));
        Check.same("found", x.found(-1, 0), 1);
    }

    /** All exponents and values, also those that no level needs. */
    static void aNewOneHasAllExponents15AndValues0() {
        Counted x = Made.with(Made::rich);
        x.component(8, false, 1, 1);
        for (int r = 0; r <= 32; r++) {
            Check.same("pw", x.get(32, 2, r), 15);
            Check.same("ph", x.get(33, 2, r), 15);
        }
        for (int k = 0; k <= 96; k++) {
            Check.same("value", x.get(34, 2, k), 0);
        }
    }

    static void theStreamStays() {
        Twin.streamStays("component", x -> x.component(8, false, 1, 1), Made::rich);
        Twin.streamStays("component", x -> x.component(8, false, 1, 1), Made::scanned);
    }
}
