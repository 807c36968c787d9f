/** The states that tests begin with; each is reached by far fewer than 512 calls. */
final class Made {
    /** How many bytes write() puts for the plans of small() and of great(). */
    static final int SMALL_BYTES = 65;
    static final int GREAT_BYTES = 2 + 88 + 47 + 199 + 15 * 44 + 15 * 200 + 16 * 7 + 228;
    static final int MOST_BYTES = 65536;

    private Made() {
    }

    static Counted with(Use state) {
        Counted x = new Counted();
        state.on(x);
        return x;
    }

    static void nothing(Counted x) {
    }

    /** The least plan that can be written. */
    static void small(Counted x) {
        x.picture(0, 0, 4, 4);
        x.component(8, false, 1, 1);
    }

    /** A plan in which nothing is as in a new one, and a short stream that a scan refused at 2. */
    static void rich(Counted x) {
        x.picture(3, 5, 30, 40);
        x.tiles(2, 4, 10, 9);
        x.component(8, false, 1, 1);
        x.component(38, true, 255, 2);
        x.general(3, 77, true, false, true);
        x.coding(1, 4, 5, 7, 33, false);
        x.precincts(1, 2, 3, 4);
        x.precincts(1, 32, 5, 6);
        x.steps(1, 2, 5, 17);
        x.step(1, 12, 40000);
        x.step(1, 96, 1);
        x.change(1, 0, 9, 5, 2, 4);
        x.change(0, 1, 3, 33, 16, 2);
        x.mark(79);
        x.put(7);
        x.scan();
    }

    /** Two components, two tiles, three parts, heads, and segments of a tile. */
    static Bytes streamOfTwoTiles() {
        Bytes own = new Bytes().segment(94, 1, 0, 9).segment(97, 0, 10, 11)
                .segment(95, 0, 0, 0, 7, 3, 2, 1);
        return new Bytes().main(2, 2).segment(83, 1, 1, 1, 3, 3, 5, 0, 18, 52)
                .segment(93, 0, 98, 1, 2).part(1, 14 + own.size(), 0, 2).add(own).mark(147)
                .barePart(0, 0, 0).part(1, 16, 1, 0).mark(147).u1(21, 22).end();
    }

    /** A scanned stream; the plan is that of its tile 1, but for the order and layers. */
    static void scanned(Counted x) {
        streamOfTwoTiles().feed(x);
        x.scan();
        x.use(1);
        x.general(4, 44, true, true, true);
    }

    /** The same, with heads of all. */
    static void scannedHeadsOfAll(Counted x) {
        new Bytes().main(2, 1).segment(96, 0, 0, 0, 0, 2, 31, 32, 0, 0, 0, 1, 33)
                .barePart(1, 0, 0).barePart(0, 0, 0).end().feed(x);
        x.scan();
    }

    /** 16 components, 32 changes, and of each as much as can be. */
    static void great(Counted x) {
        x.picture(0, 0, 4, 4);
        for (int c = 0; c < 16; c++) {
            x.component(8, false, 1, 1);
            x.coding(c, 32, 6, 6, c, true);
            x.precincts(c, 32, 1, 1);
            x.steps(c, 2, c & 7, 1 + c);
            x.step(c, 96, c);
        }
        for (int n = 0; n < 32; n++) {
            x.change(0, 0, 1, 1, 1, 0);
        }
    }

    /** A stream of so many bytes, and the great plan. */
    static void filledTo(Counted x, int size) {
        great(x);
        fillUp(x, size);
    }

    private static void fillUp(Counted x, int size) {
        int left = size - x.at(-1);
        for (; left >= GREAT_BYTES; left -= GREAT_BYTES) {
            x.write();
        }
        for (; left >= 14; left -= 14) {
            x.part(0, 0, 0, 0);
        }
        for (; left > 0; left--) {
            x.put(0);
        }
    }

    static void full(Counted x) {
        filledTo(x, MOST_BYTES);
    }

    /** As many bytes as can be, which a scan takes. */
    static void fullAndScanned(Counted x) {
        great(x);
        x.write();
        x.part(0, 0, 0, MOST_BYTES - GREAT_BYTES - 14 - 2);
        fillUp(x, MOST_BYTES - 2);
        x.mark(217);
        x.scan();
    }

    /**
     * Main segments, and behind them 256 segments of heads (96; or 97, in a part of SPAN 0): as
     * 512 calls could not put them byte by byte, they are values of the steps that write() puts
     * again and again. What it puts around them is in segments 100.
     */
    static void manyHeads(Counted x, int m) {
        x.picture(0, 0, 4, 4);
        x.component(8, false, 1, 1);
        x.coding(0, 32, 6, 6, 0, true);
        x.steps(0, 2, 2, 0);
        for (int n = 0; n < 32; n++) {
            x.step(0, 3 * n, 0xff00 + m);
            x.step(0, 3 * n + 1, 4);
            x.step(0, 3 * n + 2, 256 * n + 100 + n);
        }
        x.step(0, 96, 0xff00 + 100);
        int size = x.write();
        int ahead = size - 2 * 97;
        if (m == 97) {
            new Bytes().part(0, 0, 0, 0).feedMore(x);
            size += 12;
        }
        x.mark(100);
        size += 2;
        for (int round = 0; round < 8; round++) {
            new Bytes().u2(2 + ahead).feedMore(x);
            size += 2 + x.write();
            for (int n = 0; n < 32 && round > 0; n++) {
                x.spoil(size - 2 * 97 + 6 * n + 4, 32 * round + n);
            }
        }
        new Bytes().u2(2).feedMore(x);
    }

    /** So many bytes, which a scan takes. */
    static void scannedOf(Counted x, int size) {
        great(x);
        x.write();
        x.part(0, 0, 0, 0);
        x.mark(217);
        fillUp(x, size);
        x.scan();
    }
}
