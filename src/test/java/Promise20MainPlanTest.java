/** Promise 20, scan(): the plan becomes the main one, and all of it. */
public final class Promise20MainPlanTest {
    public static void main(String[] args) throws ReflectiveOperationException {
        Check.runAll(Promise20MainPlanTest.class);
    }

    private static Counted scanned(Bytes main) {
        Counted x = Made.with(Made::rich);
        main.barePart(0, 0, 1).end().feed(x);
        Check.same("scan", x.scan(), 0);
        Check.same("place", x.place(), -1);
        return x;
    }

    private static void check(String what, Counted x, int c, int... due) {
        for (int i = 0; i < due.length; i++) {
            Check.same(what + " get(" + (20 + i) + ", " + c + ")", x.get(20 + i, c, 0), due[i]);
        }
    }

    /** Nothing stays of what the plan was before. */
    static void nothingOfThePlanBefore() {
        Counted x = scanned(new Bytes().main(1, 2));
        int[] due = {0, 0, 4, 4, 0, 0, 4, 4, 2, 0, 1, 0, 0, 0, 0};
        for (int what = 0; what < due.length; what++) {
            Check.same("get(" + what + ")", x.get(what, 0, 0), due[what]);
        }
        for (int c = 0; c < 2; c++) {
            check("component", x, c, 8, 0, 1, 1, 0, 6, 6, 0, 1, 0, 2, 0);
        }
        for (int r = 0; r <= 32; r++) {
            Check.same("pw", x.get(32, 1, r), 15);
            Check.same("ph", x.get(33, 1, r), 15);
        }
        for (int k = 0; k <= 96; k++) {
            Check.same("value", x.get(34, 1, k), 0);
        }
    }

    /** "in whatever order they stand" */
    static void itsCodingAndItsStepsBeforeThoseOfAll() {
        Bytes its = new Bytes().segment(83, 1, 0, 7, 1, 2, 3, 0).segment(93, 1, 225, 1, 2);
        Bytes all = new Bytes().segment(82, 6, 3, 0, 9, 1, 5, 4, 4, 8, 1).segment(92, 32, 7);
        Counted before = scanned(new Bytes().start(1, 3).add(its).add(all));
        Counted behind = scanned(new Bytes().start(1, 3).add(all).add(its));
        for (int c = 0; c < 3; c++) {
            boolean own = c == 1;
            int[] due = {8, 0, 1, 1, own ? 7 : 5, own ? 3 : 6, own ? 4 : 6, own ? 3 : 8,
                own ? 0 : 1, own ? 1 : 0, own ? 7 : 1, 0};
            check("before", before, c, due);
            check("behind", behind, c, due);
            Check.same("value", before.get(34, c, 0), own ? 258 : 1792);
            Check.same("value", behind.get(34, c, 0), own ? 258 : 1792);
        }
        int[] general = {3, 9, 1, 1, 1};
        for (int i = 0; i < 5; i++) {
            Check.same("general", before.get(9 + i, 0, 0), general[i]);
            Check.same("general", behind.get(9 + i, 0, 0), general[i]);
        }
    }

    static void flagsOneByOne() {
        for (int flags = 0; flags < 8; flags++) {
            int[] told = {flags, 0, 0, 1, 0, 0, 4, 4, 0, 1, 52};
            int[] all = (flags & 1) != 0 ? told : java.util.Arrays.copyOf(told, 10);
            Counted x = scanned(new Bytes().start(1, 1).segment(82, all).steps());
            Check.same("pw", x.get(32, 0, 0), (flags & 1) != 0 ? 4 : 15);
            Check.same("ph", x.get(33, 0, 0), (flags & 1) != 0 ? 3 : 15);
            Check.same("ahead", x.get(12, 0, 0), (flags & 2) != 0 ? 1 : 0);
            Check.same("behind", x.get(13, 0, 0), (flags & 4) != 0 ? 1 : 0);
        }
    }

    /** "otherwise all are 15, as are those above N" */
    static void exponentsThatAreNotTold() {
        Counted x = scanned(new Bytes().start(1, 2).steps()
                .segment(82, 1, 0, 0, 1, 0, 1, 4, 4, 0, 1, 0, 33)
                .segment(83, 1, 0, 3, 4, 4, 0, 1));
        for (int r = 0; r <= 32; r++) {
            Check.same("pw", x.get(32, 0, r), r == 0 ? 0 : r == 1 ? 1 : 15);
            Check.same("ph", x.get(33, 0, r), r == 0 ? 0 : r == 1 ? 2 : 15);
            Check.same("its pw", x.get(32, 1, r), 15);
            Check.same("its ph", x.get(33, 1, r), 15);
        }
    }

    static void allExponentsOf32Levels() {
        Bytes told = new Bytes().u1(1, 0, 0, 1, 0, 32, 4, 4, 0, 1);
        for (int r = 0; r <= 32; r++) {
            told.u1(1 + r % 15 + 16 * (15 - r % 15));
        }
        Counted x = scanned(new Bytes().start(1, 1).segment(82, told.toArray()).steps());
        for (int r = 0; r <= 32; r++) {
            Check.same("pw", x.get(32, 0, r), 1 + r % 15);
            Check.same("ph", x.get(33, 0, r), 15 - r % 15);
        }
    }

    /** "a value is 256 times that; 0 .. 255" */
    static void valuesOfKindZero() {
        Counted x = scanned(new Bytes().start(1, 1).coding().segment(92, 0, 0, 1, 254, 255));
        int[] due = {0, 256, 65024, 65280, 0};
        for (int k = 0; k < due.length; k++) {
            Check.same("value", x.get(34, 0, k), due[k]);
        }
        Check.same("guard", x.get(30, 0, 0), 0);
    }

    static void valuesOfKindOne() {
        Counted x = scanned(new Bytes().start(1, 1).coding().segment(92, 225, 255, 255));
        Check.same("value 0", x.get(34, 0, 0), 65535);
        Check.same("value 1", x.get(34, 0, 1), 0);
        Check.same("guard", x.get(30, 0, 0), 7);
    }

    /** More than the levels need, or fewer: "those that are not told are 0" */
    static void valuesOfKindTwo() {
        Bytes told = new Bytes().u1(66);
        for (int k = 0; k < 97; k++) {
            told.u2(65535 - k);
        }
        Counted x = scanned(new Bytes().start(1, 1).coding().segment(92, told.toArray()));
        for (int k = 0; k <= 96; k++) {
            Check.same("value", x.get(34, 0, k), 65535 - k);
        }
        Counted y = scanned(new Bytes().start(1, 1)
                .segment(82, 0, 0, 0, 1, 0, 32, 4, 4, 0, 1).segment(92, 66, 0, 9));
        Check.same("value 0", y.get(34, 0, 0), 9);
        for (int k = 1; k <= 96; k++) {
            Check.same("not told", y.get(34, 0, k), 0);
        }
    }

    /** Of a component too, whatever stands behind its segment, and with more told for all. */
    static void itsValuesThatAreNotTold() {
        Bytes all = new Bytes().u1(66);
        for (int k = 0; k < 97; k++) {
            all.u2(500 + k);
        }
        int[][] its = {{1, 0, 7, 8, 9, 10}, {1, 1, 2, 3}, {1, 2, 0, 7, 0, 8, 0, 9, 0, 10}};
        int[][] due = {{1792, 2048, 2304, 2560}, {515}, {7, 8, 9, 10}};
        for (int kind = 0; kind <= 2; kind++) {
            Counted x = scanned(new Bytes().start(1, 2).segment(92, all.toArray())
                    .segment(93, its[kind]).coding());
            for (int k = 0; k <= 96; k++) {
                int told = k < due[kind].length ? due[kind][k] : 0;
                Check.same("kind " + kind + " value " + k, x.get(34, 1, k), told);
            }
            Check.same("of the other", x.get(34, 0, 96), 596);
        }
    }

    /** 97 values of a component, and one of all others. */
    static void allOfItsValues() {
        Bytes its = new Bytes().u1(1, 66);
        for (int k = 0; k < 97; k++) {
            its.u2(65535 - k);
        }
        Counted x = scanned(new Bytes().main(1, 2).segment(93, its.toArray()));
        for (int k = 0; k <= 96; k++) {
            Check.same("value " + k, x.get(34, 1, k), 65535 - k);
        }
        Check.same("of the other", x.get(34, 0, 96), 0);
    }

    static void signedIsTheHighestBit() {
        int[][] due = {{0, 1, 0}, {37, 38, 0}, {128, 1, 1}, {165, 38, 1}};
        for (int[] d : due) {
            Counted x = scanned(new Bytes().start(1, 2).set(45, d[0]).coding().steps());
            Check.same("bits", x.get(20, 1, 0), d[1]);
            Check.same("signed", x.get(21, 1, 0), d[2]);
            Check.same("of the other", x.get(20, 0, 0), 8);
        }
    }

    /** Each number of SIZE at its own place, over all four bytes; steps of components, too. */
    static void theNumbersOfSizeInTheirOrder() {
        Counted x = scanned(new Bytes().mark(79).mark(81).u2(44).u2(65535).u4(0x51627384)
                .u4(0x61728394).u4(0x11223344).u4(0x21324354).u4(0x51525354).u4(0x61626364)
                .u4(0x01020304).u4(0x05060708).u2(2).u1(0, 1, 255).u1(165, 255, 2).coding()
                .steps());
        int[] due = {0x11223344, 0x21324354, 0x51627384, 0x61728394, 0x01020304, 0x05060708,
            0x51525354, 0x61626364, 2};
        for (int what = 0; what < due.length; what++) {
            Check.same("get(" + what + ")", x.get(what, 0, 0), due[what]);
        }
        check("component", x, 0, 1, 0, 1, 255);
        check("component", x, 1, 38, 1, 255, 2);
    }

    static void shiftsOfTheLeastAndGreatest() {
        Counted x = scanned(new Bytes().main(1, 3).segment(94, 2, 0, 37)
                .segment(94, 0, 0, 0));
        Check.same("0", x.get(31, 0, 0), 0);
        Check.same("none", x.get(31, 1, 0), 0);
        Check.same("37", x.get(31, 2, 0), 37);
    }

    static void noChangesToldAndNoneAtAll() {
        Check.same("none told", scanned(new Bytes().main(1, 1).segment(95)).get(14, 0, 0), 0);
        Check.same("none", scanned(new Bytes().main(1, 1)).get(14, 0, 0), 0);
        Counted x = scanned(new Bytes().main(1, 1)
                .segment(95, 0, 0, 0, 1, 1, 1, 0, 32, 255, 255, 255, 33, 0, 4));
        int[] due = {0, 0, 1, 1, 1, 0, 32, 255, 65535, 33, 256, 4};
        for (int i = 0; i < due.length; i++) {
            Check.same("change", x.get(40 + i % 6, i / 6, 0), due[i]);
        }
    }

    /** What is told in a tile is not of the main plan. */
    static void nothingOfTheTiles() {
        Bytes own = new Bytes().segment(82, 6, 4, 0, 9, 1, 3, 0, 0, 9, 0).segment(92, 33, 1, 1)
                .segment(94, 0, 0, 5).segment(95, 0, 0, 0, 1, 1, 1, 0);
        Counted x = new Bytes().main(1, 1).part(0, 14 + own.size(), 0, 0).add(own).mark(147)
                .end().feed(new Counted());
        Check.same("scan", x.scan(), 0);
        check("component", x, 0, 8, 0, 1, 1, 0, 6, 6, 0, 1, 0, 2, 0);
        int[] general = {0, 1, 0, 0, 0, 0};
        for (int i = 0; i < general.length; i++) {
            Check.same("general", x.get(9 + i, 0, 0), general[i]);
        }
    }

    /** A refused scan leaves the plan, and the stream not scanned; the next one may take it. */
    static void thePlanStaysIfItIsRefused() {
        Use state = x -> {
            Made.scanned(x);
            x.spoil(x.at(-1) - 1, 216);
        };
        Twin.planAndBytesStay("scan", x -> Check.same("scan", x.scan(), 1), state);
        Counted x = Made.with(state);
        Check.same("refused", x.scan(), 1);
        Check.refuses("found", IllegalStateException.class, () -> x.found(-1, 0));
        x.spoil(x.at(-1) - 1, 217);
        Check.refuses("not scanned yet", IllegalStateException.class, () -> x.found(-1, 0));
        Check.same("taken", x.scan(), 0);
        Check.same("found", x.found(-1, 0), 3);
        Check.same("order", x.get(9, 0, 0), 0);
    }

    static void aScannedStreamMayBeScannedAgain() {
        Twin.streamStays("again", x -> Check.same("scan", x.scan(), 0), Made::scanned);
        Counted x = Made.with(Made::scanned);
        x.scan();
        Check.same("layers of the main plan", x.get(10, 0, 0), 1);
    }

    static void whatIsWrittenIsRead() {
        Use[] plans = {Made::small, Made::great};
        for (Use plan : plans) {
            Use written = x -> {
                plan.on(x);
                x.write();
                x.part(0, 0, 1, 0);
                x.mark(217);
            };
            Twin.planAndBytesStay("scan", x -> Check.same("scan", x.scan(), 0), written);
        }
    }
}
