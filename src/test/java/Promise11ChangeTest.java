/** Promise 11, change(): what is a change for a call, and 32 of them. */
public final class Promise11ChangeTest {
    private static final int MOST = 2147483647;
    private static final int LEAST = -2147483648;

    public static void main(String[] args) throws ReflectiveOperationException {
        Check.runAll(Promise11ChangeTest.class);
    }

    /** level, component, layers' end, levels' end, components' end, order. */
    private static void taken(int... n) {
        Counted x = Made.with(Made::rich);
        Check.same("how many", x.change(n[0], n[1], n[2], n[3], n[4], n[5]), 3);
        Check.same("get(14)", x.get(14, 0, 0), 3);
        for (int i = 0; i < 6; i++) {
            Check.same("get(" + (40 + i) + ")", x.get(40 + i, 2, 0), n[i]);
        }
        Check.same("the one before", x.get(43, 1, 0), 33);
    }

    private static void refused(int... n) {
        String what = "change(" + java.util.Arrays.toString(n) + ")";
        Use call = x -> x.change(n[0], n[1], n[2], n[3], n[4], n[5]);
        Twin.argument(what, call, Made::nothing, Made::rich, Made::scanned);
        Check.refuses(what + " as a 33rd", IllegalArgumentException.class,
                () -> call.on(Made.with(Made::great)));
    }

    static void firstLevelIsZeroOrMore() {
        taken(0, 3, 9, 5, 7, 2);
        refused(-1, 3, 9, 5, 7, 2);
        refused(LEAST, 3, 9, 5, 7, 2);
    }

    static void levelsEndIsAboveTheFirst() {
        taken(4, 3, 9, 5, 7, 2);
        taken(32, 3, 9, 33, 7, 2);
        refused(5, 3, 9, 5, 7, 2);
        refused(6, 3, 9, 5, 7, 2);
        refused(0, 3, 9, 0, 7, 2);
        refused(33, 3, 9, 33, 7, 2);
        refused(MOST, 3, 9, LEAST, 7, 2);
    }

    static void levelsEndIs33AtMost() {
        taken(0, 3, 9, 33, 7, 2);
        refused(0, 3, 9, 34, 7, 2);
        refused(33, 3, 9, 34, 7, 2);
        refused(0, 3, 9, MOST, 7, 2);
    }

    static void firstComponentIsZeroOrMore() {
        taken(1, 0, 9, 5, 7, 2);
        refused(1, -1, 9, 5, 7, 2);
        refused(1, LEAST, 9, 5, 7, 2);
    }

    static void firstComponentIs15AtMost() {
        taken(1, 15, 9, 5, 16, 2);
        refused(1, 16, 9, 5, 17, 2);
        refused(1, 16, 9, 5, 256, 2);
        refused(1, 16, 9, 5, 0, 2);
        refused(1, MOST, 9, 5, 16, 2);
    }

    static void componentsEndIsAboveTheFirst() {
        taken(1, 6, 9, 5, 7, 2);
        refused(1, 7, 9, 5, 7, 2);
        refused(1, 8, 9, 5, 7, 2);
        refused(1, 0, 9, 5, -1, 2);
        refused(1, 0, 9, 5, LEAST, 2);
    }

    static void componentsEndIs16AtMostAndNotZero() {
        taken(1, 0, 9, 5, 16, 2);
        taken(1, 0, 9, 5, 1, 2);
        refused(1, 0, 9, 5, 17, 2);
        refused(1, 0, 9, 5, 255, 2);
        refused(1, 0, 9, 5, 256, 2);
        refused(1, 0, 9, 5, 0, 2);
        refused(1, 0, 9, 5, MOST, 2);
    }

    /** The components need not be there. */
    static void componentsThatAreNotThere() {
        Counted x = new Counted();
        Check.same("of none", x.change(0, 15, 1, 1, 16, 0), 1);
        Check.same("first component", x.get(41, 0, 0), 15);
    }

    static void layersEndFromOneTo255() {
        taken(1, 3, 1, 5, 7, 2);
        taken(1, 3, 255, 5, 7, 2);
        refused(1, 3, 0, 5, 7, 2);
        refused(1, 3, 256, 5, 7, 2);
        refused(1, 3, -1, 5, 7, 2);
        refused(1, 3, 65535, 5, 7, 2);
        refused(1, 3, LEAST, 5, 7, 2);
        refused(1, 3, MOST, 5, 7, 2);
    }

    static void orderFromZeroToFour() {
        taken(1, 3, 9, 5, 7, 0);
        taken(1, 3, 9, 5, 7, 4);
        refused(1, 3, 9, 5, 7, -1);
        refused(1, 3, 9, 5, 7, 5);
        refused(1, 3, 9, 5, 7, LEAST);
        refused(1, 3, 9, 5, 7, MOST);
    }

    static void thirtyTwoOfThem() {
        Counted x = new Counted();
        for (int n = 1; n <= 32; n++) {
            Check.same("how many", x.change(n - 1, n % 16, n, 33, 16, n % 5), n);
        }
        Check.refuses("a 33rd", IllegalStateException.class, () -> x.change(0, 0, 1, 1, 1, 0));
        Check.same("get(14)", x.get(14, 0, 0), 32);
        for (int n = 1; n <= 32; n++) {
            int[] due = {n - 1, n % 16, n, 33, 16, n % 5};
            for (int i = 0; i < 6; i++) {
                Check.same("get(" + (40 + i) + ")", x.get(40 + i, n - 1, 0), due[i]);
            }
        }
        Twin.state("a 33rd", y -> y.change(0, 0, 1, 1, 1, 0), Made::great);
    }

    static void thoseThatAScanReadCount() {
        Use readOf31 = x -> {
            Bytes told = new Bytes();
            for (int n = 0; n < 31; n++) {
                told.u1(0, 0, 0, 1, 1, 1, 0);
            }
            new Bytes().main(1, 1).segment(95, told.toArray()).barePart(0, 0, 0).end().feed(x);
            x.scan();
        };
        Counted x = Made.with(readOf31);
        Check.same("a 32nd", x.change(0, 0, 1, 1, 1, 0), 32);
        Check.refuses("a 33rd", IllegalStateException.class, () -> x.change(0, 0, 1, 1, 1, 0));
        Check.same("found", x.found(-1, 0), 1);
    }

    static void theStreamStays() {
        Twin.streamStays("change", x -> x.change(0, 0, 1, 1, 1, 0), Made::scanned);
    }
}
