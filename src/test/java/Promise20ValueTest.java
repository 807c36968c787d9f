/** Promise 20, scan(), number 5: each of the VALUES at its ends. */
public final class Promise20ValueTest {
    private static final long MOST = 0x7fffffffL;
    private static final long ABOVE = 0x80000000L;
    private static final long ALL_BITS = 0xffffffffL;
    private static final int[] CODING = {0, 0, 0, 1, 0, 0, 4, 4, 0, 1};
    private static final int[] ITS_CODING = {1, 0, 0, 4, 4, 0, 1};
    /** First level, first component, layers' end of two bytes, the other ends, order. */
    private static final int[] CHANGE = {1, 3, 0, 9, 5, 7, 2};

    public static void main(String[] args) throws ReflectiveOperationException {
        Check.runAll(Promise20ValueTest.class);
    }

    private static Bytes main1() {
        return new Bytes().main(1, 1);
    }

    /** x0, y0, x1, y1, then x, y, wide, high of tiles, of which there are so many. */
    private static void sizeTaken(int tiles, long... n) {
        Bytes x = new Bytes().startOf(n[0], n[1], n[2], n[3], n[4], n[5], n[6], n[7]).coding()
                .steps();
        for (int t = 0; t < tiles; t++) {
            x.barePart(t, 0, 0);
        }
        x.end();
        x.accepted("SIZE " + java.util.Arrays.toString(n));
        Counted y = x.feed(new Counted());
        Check.same("scan", y.scan(), 0);
        for (int what = 0; what < 8; what++) {
            Check.same("get(" + what + ")", y.get(what, 0, 0), n[what]);
        }
    }

    private static void sizeRefused(long... n) {
        new Bytes().startOf(n[0], n[1], n[2], n[3], n[4], n[5], n[6], n[7]).coding().steps()
                .barePart(0, 0, 0).end().refused("SIZE " + java.util.Arrays.toString(n), 5, 2);
    }

    static void x0IsBelowX1() {
        sizeTaken(1, 3, 1, 4, 5, 0, 0, 4, 5);
        sizeRefused(4, 1, 4, 5, 0, 0, 5, 5);
        sizeRefused(5, 1, 4, 5, 0, 0, 6, 5);
        sizeRefused(ALL_BITS, 1, 4, 5, 0, 0, 4, 5);
        sizeRefused(ABOVE, 1, 4, 5, 0, 0, 4, 5);
        sizeTaken(1, 0, 0, 1, 1, 0, 0, 1, 1);
        sizeRefused(0, 0, 0, 1, 0, 0, 1, 1);
    }

    static void y0IsBelowY1() {
        sizeTaken(1, 1, 4, 4, 5, 0, 0, 4, 5);
        sizeRefused(1, 5, 4, 5, 0, 0, 4, 6);
        sizeRefused(1, 6, 4, 5, 0, 0, 4, 7);
        sizeRefused(1, ALL_BITS, 4, 5, 0, 0, 4, 5);
        sizeRefused(1, ABOVE, 4, 5, 0, 0, 4, 5);
        sizeRefused(0, 0, 1, 0, 0, 0, 1, 1);
    }

    static void x1AndY1AreBelowTwoTo31() {
        sizeTaken(1, 0, 0, MOST, MOST, 0, 0, MOST, MOST);
        sizeTaken(1, MOST - 1, MOST - 1, MOST, MOST, MOST - 1, MOST - 1, 1, 1);
        sizeRefused(0, 0, ABOVE, 5, 0, 0, MOST, 5);
        sizeRefused(0, 0, 5, ABOVE, 0, 0, 5, MOST);
        sizeRefused(MOST, 0, ABOVE, 5, MOST, 0, 1, 5);
        sizeRefused(0, MOST, 5, ABOVE, 0, MOST, 5, 1);
        sizeRefused(0, 0, ALL_BITS, 5, 0, 0, MOST, 5);
        sizeRefused(0, 0, 5, ALL_BITS, 0, 0, 5, MOST);
    }

    static void tilesAreNotAboveX0AndY0() {
        sizeTaken(1, 2, 3, 8, 9, 2, 3, 8, 8);
        sizeRefused(2, 3, 8, 9, 3, 3, 8, 8);
        sizeRefused(2, 3, 8, 9, 2, 4, 8, 8);
        sizeRefused(2, 3, 8, 9, ABOVE, 3, 8, 8);
        sizeRefused(2, 3, 8, 9, 2, ABOVE, 8, 8);
        sizeRefused(2, 3, 8, 9, ALL_BITS, 3, 8, 8);
        sizeRefused(2, 3, 8, 9, 2, ALL_BITS, 8, 8);
    }

    static void theFirstTileHasSomeOfThePicture() {
        sizeTaken(2, 4, 4, 8, 8, 1, 0, 4, 9);
        sizeRefused(4, 4, 8, 8, 1, 0, 3, 9);
        sizeTaken(2, 4, 4, 8, 8, 0, 1, 9, 4);
        sizeRefused(4, 4, 8, 8, 0, 1, 9, 3);
    }

    static void wideAndHighFromOneToTwoTo31Less1() {
        sizeTaken(4, 4, 4, 8, 8, 4, 0, 1, 9);
        sizeRefused(4, 4, 8, 8, 4, 0, 0, 9);
        sizeTaken(4, 4, 4, 8, 8, 0, 4, 9, 1);
        sizeRefused(4, 4, 8, 8, 0, 4, 9, 0);
        sizeTaken(1, 4, 4, 8, 8, 4, 4, MOST, MOST);
        sizeRefused(4, 4, 8, 8, 4, 4, ABOVE, MOST);
        sizeRefused(4, 4, 8, 8, 4, 4, MOST, ABOVE);
        sizeRefused(4, 4, 8, 8, 4, 4, ALL_BITS, MOST);
        sizeRefused(4, 4, 8, 8, 4, 4, MOST, ALL_BITS);
    }

    static void theFirstTwoBytesOfSizeAreAny() {
        int[] any = {0, 1, 127, 128, 255};
        for (int b : any) {
            main1().set(6, b).set(7, 255 - b).barePart(0, 0, 0).end().accepted("any " + b);
        }
    }

    static void oneComponentOrMore() {
        new Bytes().main(1, 1).set(5, 38).set(41, 0).refused("none", 5, 2);
        new Bytes().main(1, 1).barePart(0, 0, 0).end().accepted("one");
    }

    /** Of the first component and of the last. */
    private static void component(int number, int bits, int dx, int dy) {
        for (int c = 0; c < 3; c += 2) {
            int k = 42 + 3 * c;
            new Bytes().main(1, 3).set(k, bits).set(k + 1, dx).set(k + 2, dy).barePart(0, 0, 0)
                    .end().refused("component " + c + ": " + bits + " " + dx + " " + dy, number,
                            number == 0 ? -1 : 2);
        }
    }

    static void bitsFromOneTo38() {
        component(0, 0, 1, 1);
        component(0, 37, 1, 1);
        component(5, 38, 1, 1);
        component(5, 127, 1, 1);
        component(0, 128, 1, 1);
        component(0, 128 + 37, 1, 1);
        component(5, 128 + 38, 1, 1);
        component(5, 255, 1, 1);
    }

    static void dxAndDyFromOneTo255() {
        component(0, 7, 1, 255);
        component(0, 7, 255, 1);
        component(5, 7, 0, 1);
        component(5, 7, 1, 0);
    }

    private static void coding(int number, int k, int b) {
        Spot.both("CODING byte " + k + " is " + b, number, 82, Spot.with(CODING, k, b));
    }

    private static void itsCoding(int number, int k, int b) {
        Spot.both("ITS CODING byte " + k + " is " + b, number, 83, Spot.with(ITS_CODING, k, b));
    }

    /** A byte of the body, in CODING and in ITS CODING. */
    private static void body(int number, int k, int b) {
        coding(number, 5 + k, b);
        itsCoding(number, 2 + k, b);
    }

    static void flagsOfCoding() {
        for (int flags = 0; flags < 256; flags++) {
            int[] told = {flags, 0, 0, 1, 0, 0, 4, 4, 0, 1, 255};
            int[] all = flags % 2 == 1 ? told : java.util.Arrays.copyOf(told, 10);
            Spot.both("flags " + flags, flags < 8 ? 0 : 5, 82, all);
        }
    }

    /** "83 ITS CODING: U1 component, U1 flags (1 alone)" */
    static void flagsOfItsCoding() {
        for (int flags = 0; flags < 256; flags++) {
            int[] told = {1, flags, 0, 4, 4, 0, 1, 255};
            int[] all = flags % 2 == 1 ? told : java.util.Arrays.copyOf(told, 7);
            Spot.both("flags " + flags, flags < 2 ? 0 : 5, 83, all);
        }
    }

    static void orderFromZeroToFour() {
        coding(0, 1, 0);
        coding(0, 1, 4);
        coding(5, 1, 5);
        coding(5, 1, 255);
    }

    static void layersAreOneOrMore() {
        coding(5, 3, 0);
        coding(0, 3, 1);
        coding(0, 3, 255);
        Spot.both("0 with colour", 5, 82, 0, 0, 0, 0, 1, 0, 4, 4, 0, 1);
        Spot.both("0 of order 1", 5, 82, 0, 1, 0, 0, 0, 0, 4, 4, 0, 1);
    }

    static void colourIsZeroOrOne() {
        coding(0, 4, 0);
        coding(0, 4, 1);
        coding(5, 4, 2);
        coding(5, 4, 255);
    }

    static void levelsFromZeroTo32() {
        body(0, 0, 0);
        body(0, 0, 32);
        body(5, 0, 33);
        body(5, 0, 255);
    }

    /** 34 bytes of precincts are as 33 levels need them; 33 levels are no value. */
    static void levelsFromZeroTo32WithPrecincts() {
        for (int levels = 31; levels <= 34; levels++) {
            Bytes precincts = new Bytes();
            for (int r = 0; r <= levels; r++) {
                precincts.u1(255);
            }
            int number = levels <= 32 ? 0 : 5;
            Spot.both(levels + " levels", number, 82, new Bytes()
                    .u1(1, 0, 0, 1, 0, levels, 4, 4, 0, 1).add(precincts).toArray());
            Spot.both("its " + levels + " levels", number, 83, new Bytes()
                    .u1(1, 1, levels, 4, 4, 0, 1).add(precincts).toArray());
        }
    }

    /** Told less 2: 0 .. 8, together at most 8. */
    static void blocksFromTwoToTenTogetherTwelve() {
        for (int bw = 0; bw <= 9; bw++) {
            for (int bh = 0; bh <= 9; bh++) {
                int number = bw <= 8 && bh <= 8 && bw + bh <= 8 ? 0 : 5;
                Spot.both("blocks", number, 82, 0, 0, 0, 1, 0, 0, bw, bh, 0, 1);
                Spot.both("its blocks", number, 83, 1, 0, 0, bw, bh, 0, 1);
            }
        }
        body(5, 1, 255);
        body(5, 2, 255);
        body(5, 1, 254);
        body(5, 2, 254);
    }

    static void styleBelow64() {
        body(0, 3, 0);
        body(0, 3, 63);
        body(5, 3, 64);
        body(5, 3, 255);
    }

    static void exactIsZeroOrOne() {
        body(0, 4, 0);
        body(0, 4, 1);
        body(5, 4, 2);
        body(5, 4, 255);
    }

    /** Of level 0 any exponents; above it none that is 0, on either side. */
    static void exponentsAboveLevelZeroAreNotZero() {
        int[][] cases = {{0, 0, 17, 17}, {0, 255, 255, 255}, {0, 15, 17, 31}, {0, 240, 241, 17},
            {5, 255, 16, 255}, {5, 255, 1, 255}, {5, 255, 0, 255}, {5, 255, 255, 240},
            {5, 255, 255, 15}, {5, 255, 255, 0}};
        for (int[] e : cases) {
            Spot.both("exponents", e[0], 82, 1, 0, 0, 1, 0, 2, 4, 4, 0, 1, e[1], e[2], e[3]);
            Spot.both("its exponents", e[0], 83, 1, 1, 2, 4, 4, 0, 1, e[1], e[2], e[3]);
        }
        int[][] ofOneLevel = {{0, 0, 17}, {0, 0, 255}, {5, 255, 16}, {5, 255, 1}, {5, 0, 0}};
        for (int[] e : ofOneLevel) {
            Spot.both("exponents", e[0], 82, 1, 0, 0, 1, 0, 1, 4, 4, 0, 1, e[1], e[2]);
            Spot.both("its exponents", e[0], 83, 1, 1, 1, 4, 4, 0, 1, e[1], e[2]);
        }
    }

    /** Up to the last of 32 levels. */
    static void exponentsOfTheLastLevelAreNotZero() {
        int[] last = {17, 16, 1, 0};
        for (int e : last) {
            Bytes precincts = new Bytes();
            for (int r = 0; r < 32; r++) {
                precincts.u1(r == 0 ? 0 : 255);
            }
            precincts.u1(e);
            int number = e == 17 ? 0 : 5;
            Spot.both("the last", number, 82, new Bytes().u1(1, 0, 0, 1, 0, 32, 4, 4, 0, 1)
                    .add(precincts).toArray());
            Spot.both("its last", number, 83, new Bytes().u1(1, 1, 32, 4, 4, 0, 1)
                    .add(precincts).toArray());
        }
    }

    static void itsCodingOfAComponentThatIsThere() {
        itsCoding(0, 0, 0);
        itsCoding(0, 0, 1);
        itsCoding(5, 0, 2);
        itsCoding(5, 0, 16);
        itsCoding(5, 0, 255);
    }

    static void itsStepsOfAComponentThatIsThere() {
        int[] components = {0, 1, 2, 16, 255};
        for (int c : components) {
            Spot.both("ITS STEPS of " + c, c < 2 ? 0 : 5, 93, c, 64, 0);
            Spot.both("SHIFT of " + c, c < 2 ? 0 : 5, 94, c, 0, 1);
        }
    }

    static void theLastOfSixteenComponents() {
        for (int c = 15; c <= 16; c++) {
            int number = c == 15 ? 0 : 5;
            int place = c == 15 ? -1 : 2 + 88 + 14 + 6;
            new Bytes().main(1, 16).segment(83, c, 0, 0, 4, 4, 0, 1).barePart(0, 0, 0).end()
                    .refused("83 of " + c, number, place);
            new Bytes().main(1, 16).segment(93, c, 64, 0).barePart(0, 0, 0).end()
                    .refused("93 of " + c, number, place);
            new Bytes().main(1, 16).segment(94, c, 0, 1).barePart(0, 0, 0).end()
                    .refused("94 of " + c, number, place);
        }
    }

    /** Guard is any of the three bits above the kind. */
    static void kindFromZeroToTwo() {
        for (int both = 0; both < 256; both++) {
            int kind = both & 31;
            int[] values = kind == 0 ? new int[] {both, 9} : new int[] {both, 9, 9};
            Spot.both("STEPS " + both, kind <= 2 ? 0 : 5, 92, values);
            int[] its = kind == 0 ? new int[] {1, both, 9} : new int[] {1, both, 9, 9};
            Spot.both("ITS STEPS " + both, kind <= 2 ? 0 : 5, 93, its);
        }
    }

    static void theSecondByteOfShiftIsZero() {
        Spot.both("0", 0, 94, 1, 0, 5);
        Spot.both("1", 5, 94, 1, 1, 5);
        Spot.both("255", 5, 94, 1, 255, 5);
    }

    static void shiftFromZeroTo37() {
        Spot.both("0", 0, 94, 1, 0, 0);
        Spot.both("37", 0, 94, 1, 0, 37);
        Spot.both("38", 5, 94, 1, 0, 38);
        Spot.both("255", 5, 94, 1, 0, 255);
    }

    /** The change stands alone, and as the second one, and as the first one. */
    private static void change(int number, int... n) {
        Spot.both("CHANGE", number, 95, n);
        Spot.both("CHANGE behind another", number, 95,
                new Bytes().u1(CHANGE).u1(n).toArray());
        Spot.both("CHANGE before another", number, 95,
                new Bytes().u1(n).u1(CHANGE).toArray());
    }

    static void levelsEndOfAChange() {
        change(0, 4, 3, 0, 9, 5, 7, 2);
        change(5, 5, 3, 0, 9, 5, 7, 2);
        change(5, 6, 3, 0, 9, 5, 7, 2);
        change(0, 0, 3, 0, 9, 1, 7, 2);
        change(5, 0, 3, 0, 9, 0, 7, 2);
        change(0, 32, 3, 0, 9, 33, 7, 2);
        change(5, 32, 3, 0, 9, 34, 7, 2);
        change(5, 33, 3, 0, 9, 33, 7, 2);
        change(5, 0, 3, 0, 9, 255, 7, 2);
        change(5, 255, 3, 0, 9, 0, 7, 2);
    }

    /** Of components that need not be there; 0 counts as 256. */
    static void componentsEndOfAChange() {
        change(0, 1, 6, 0, 9, 5, 7, 2);
        change(5, 1, 7, 0, 9, 5, 7, 2);
        change(5, 1, 8, 0, 9, 5, 7, 2);
        change(0, 1, 0, 0, 9, 5, 1, 2);
        change(0, 1, 0, 0, 9, 5, 0, 2);
        change(0, 1, 255, 0, 9, 5, 0, 2);
        change(0, 1, 254, 0, 9, 5, 255, 2);
        change(5, 1, 255, 0, 9, 5, 255, 2);
        change(0, 1, 16, 0, 9, 5, 17, 2);
    }

    static void layersEndOfAChange() {
        change(5, 1, 3, 0, 0, 5, 7, 2);
        change(0, 1, 3, 0, 1, 5, 7, 2);
        change(0, 1, 3, 0, 255, 5, 7, 2);
        change(0, 1, 3, 1, 0, 5, 7, 2);
        change(0, 1, 3, 255, 255, 5, 7, 2);
    }

    static void orderOfAChange() {
        change(0, 1, 3, 0, 9, 5, 7, 0);
        change(0, 1, 3, 0, 9, 5, 7, 4);
        change(5, 1, 3, 0, 9, 5, 7, 5);
        change(5, 1, 3, 0, 9, 5, 7, 255);
    }

    /** "HEADS: numbers 0, 1, .. in order in the main segments" */
    static void numbersOf96() {
        main1().segment(96, 0).barePart(0, 0, 0).end().accepted("0");
        main1().segment(96, 1).refused("1 first", 5, 65);
        main1().segment(96, 255).refused("255 first", 5, 65);
        main1().segment(96, 0, 9).segment(96, 1).segment(99).segment(96, 2, 7).barePart(0, 0, 0)
                .end().accepted("0, 1, 2");
        main1().segment(96, 0).segment(96, 0).refused("0 again", 5, 70);
        main1().segment(96, 0).segment(96, 2).refused("2 behind 0", 5, 70);
        main1().segment(96, 0).segment(96, 1).segment(96, 1).refused("1 again", 5, 75);
        main1().segment(96, 0).segment(96, 1).segment(96, 0).refused("0 behind 1", 5, 75);
    }

    /** "and in those of all parts of a tile" */
    static void numbersOf97() {
        Bytes one = new Bytes().main(2, 1).part(0, 19, 0, 0).segment(97, 0).mark(147)
                .part(1, 24, 0, 0).segment(97, 0).segment(97, 1).mark(147);
        int place = 65 + 19 + 24 + 12;
        for (int n = 0; n <= 3; n++) {
            new Bytes().add(one).part(0, 19, 1, 0).segment(97, n).mark(147).end()
                    .refused("tile 0, then " + n, n == 1 ? 0 : 5, n == 1 ? -1 : place);
            new Bytes().add(one).part(1, 19, 1, 0).segment(97, n).mark(147).end()
                    .refused("tile 1, then " + n, n == 2 ? 0 : 5, n == 2 ? -1 : place);
        }
        main1().part(0, 19, 0, 0).segment(97, 1).mark(147).end().refused("1 first", 5, 77);
        main1().barePart(0, 0, 0).part(0, 19, 1, 0).segment(97, 1).mark(147).end()
                .refused("1 in the second part, but first", 5, 91);
        main1().barePart(0, 0, 0).part(0, 19, 1, 0).segment(97, 0).mark(147).end()
                .accepted("0 in the second part");
    }

    /** 255 is the last number; behind it there is no value, 0 is not the next one. */
    static void numbersOfHeadsUpTo255() {
        for (int m = 96; m <= 97; m++) {
            Counted x = new Counted();
            Made.manyHeads(x, m);
            endBehindHeads(x, m);
            Check.same("256 segments " + m, x.scan(), 0);
            Check.same("their bytes", x.use(0), m == 96 ? 252 : 256);
            Check.same("the last byte", x.head(0, m == 96 ? 251 : 255), 131);
            int[] numbers = {0, 1, 255};
            for (int n : numbers) {
                Counted y = new Counted();
                Made.manyHeads(y, m);
                int place = y.at(-1);
                new Bytes().segment(m, n).feedMore(y);
                endBehindHeads(y, m);
                Check.same("a 257th segment " + m, y.scan(), 5);
                Check.same("its place", y.place(), place);
            }
        }
    }

    private static void endBehindHeads(Counted x, int m) {
        if (m == 96) {
            x.part(0, 0, 0, 0);
        } else {
            x.mark(147);
        }
        x.mark(217);
    }

    static void aPartsTileIsThere() {
        main1().barePart(0, 0, 0).end().accepted("0 of 1");
        main1().barePart(1, 0, 0).end().refused("1 of 1", 5, 65);
        main1().barePart(256, 0, 0).end().refused("256 of 1", 5, 65);
        main1().barePart(65535, 0, 0).end().refused("65535 of 1", 5, 65);
        new Bytes().main(3, 1).barePart(0, 0, 0).barePart(2, 0, 0).barePart(1, 0, 0).end()
                .accepted("2 of 3");
        new Bytes().main(3, 1).barePart(2, 0, 0).barePart(3, 0, 0).end()
                .refused("3 of 3", 5, 79);
        Bytes all = new Bytes().main(64, 1);
        for (int t = 63; t >= 0; t--) {
            all.barePart(t, 0, 1);
        }
        new Bytes().add(all).end().accepted("63 of 64");
        int place = all.size();
        all.barePart(64, 0, 0).end().refused("64 of 64", 5, place);
    }

    /** "its part is the number of parts that this tile had before" */
    static void thePartIsTheNumberOfThoseBefore() {
        main1().barePart(0, 1, 0).end().refused("1 first", 5, 65);
        main1().barePart(0, 255, 0).end().refused("255 first", 5, 65);
        main1().barePart(0, 0, 0).barePart(0, 0, 0).end().refused("0 again", 5, 79);
        main1().barePart(0, 0, 0).barePart(0, 1, 0).end().accepted("1");
        main1().barePart(0, 0, 0).barePart(0, 2, 0).end().refused("2 behind 0", 5, 79);
        new Bytes().main(2, 1).barePart(0, 0, 0).barePart(1, 1, 0).end()
                .refused("1 first, of the other tile", 5, 79);
        new Bytes().main(2, 1).barePart(0, 0, 0).barePart(1, 0, 0).barePart(0, 1, 0)
                .barePart(1, 1, 0).end().accepted("by turns");
    }

    /** The 256th part of a tile is its part 255; a scan takes 256 of them. */
    static void partsUpTo255() {
        Bytes x = main1();
        for (int n = 0; n < 256; n++) {
            x.barePart(0, n, 0);
        }
        x.end().accepted("256 parts of a tile");
    }

    /** "parts is 0, or more than part" */
    static void partsIsZeroOrMoreThanPart() {
        main1().barePart(0, 0, 0).end().accepted("0");
        main1().barePart(0, 0, 1).end().accepted("1 of 1");
        main1().barePart(0, 0, 0).barePart(0, 1, 1).end().refused("1 of part 1", 5, 79);
        main1().barePart(0, 0, 0).barePart(0, 1, 2).end().accepted("2 of part 1");
        main1().barePart(0, 0, 0).barePart(0, 1, 0).barePart(0, 2, 1).end()
                .refused("1 of part 2", 5, 93);
        main1().barePart(0, 0, 0).barePart(0, 1, 0).barePart(0, 2, 2).end()
                .refused("2 of part 2", 5, 93);
        main1().barePart(0, 0, 0).barePart(0, 1, 0).barePart(0, 2, 3).end()
                .accepted("3 of part 2");
        main1().barePart(0, 0, 1).barePart(0, 1, 1).end().refused("1 and 1", 5, 79);
    }

    /** "and alike with that of the tile's other parts that is not 0" */
    static void partsIsAlikeWithThatOfTheOthers() {
        main1().barePart(0, 0, 2).barePart(0, 1, 2).end().accepted("2, 2");
        main1().barePart(0, 0, 2).barePart(0, 1, 0).end().accepted("2, 0");
        main1().barePart(0, 0, 0).barePart(0, 1, 2).end().accepted("0, 2");
        main1().barePart(0, 0, 2).barePart(0, 1, 3).end().refused("2, 3", 5, 79);
        main1().barePart(0, 0, 3).barePart(0, 1, 2).end().refused("3, 2", 5, 79);
        main1().barePart(0, 0, 3).barePart(0, 1, 0).barePart(0, 2, 4).end()
                .refused("3, 0, 4", 5, 93);
        main1().barePart(0, 0, 3).barePart(0, 1, 0).barePart(0, 2, 3).end()
                .accepted("3, 0, 3");
        new Bytes().main(2, 1).barePart(0, 0, 1).barePart(1, 0, 2).barePart(1, 1, 2).end()
                .accepted("another tile's");
    }

    static void spanIsZeroOr14OrMore() {
        main1().part(0, 0, 0, 0).mark(147).end().accepted("0");
        for (int span = 1; span <= 13; span++) {
            main1().part(0, span, 0, 0).mark(147).end().refused("span " + span, 5, 65);
        }
        main1().part(0, 14, 0, 0).mark(147).end().accepted("14");
        main1().part(0, 15, 0, 0).mark(147).u1(0).end().accepted("15");
    }
}
