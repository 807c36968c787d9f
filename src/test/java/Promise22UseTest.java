import java.util.NoSuchElementException;

/** Promise 22, use(): the plan of a tile that is there, of a stream that is scanned. */
public final class Promise22UseTest {
    public static void main(String[] args) throws ReflectiveOperationException {
        Check.runAll(Promise22UseTest.class);
    }

    private static Counted scanned(Bytes bytes) {
        Counted x = bytes.feed(new Counted());
        Check.same("scan", x.scan(), 0);
        return x;
    }

    /** Main segments of two tiles, of which tile 1 has segments of its own. */
    private static Counted ofTile1(Bytes main, Bytes own) {
        return scanned(main.barePart(0, 0, 0).part(1, 14 + own.size(), 0, 0).add(own).mark(147)
                .end());
    }

    private static void check(String what, Counted x, int number, int... due) {
        for (int c = 0; c < due.length; c++) {
            Check.same(what + " get(" + number + ", " + c + ")", x.get(number, c, 0), due[c]);
        }
    }

    static void notScanned() {
        Twin.state("new", x -> x.use(0), Made::nothing);
        Twin.state("refused", x -> x.use(0), Made::rich);
        Twin.state("no tile either", x -> x.use(-1), Made::rich, Made::nothing);
        Twin.state("spoiled", x -> x.use(0), x -> {
            Made.scanned(x);
            x.spoil(0, 255);
        });
        Twin.state("refused by a later scan", x -> x.use(0), x -> {
            Made.scanned(x);
            x.spoil(0, 0);
            x.scan();
        });
    }

    static void theTileIsThere() {
        int[] none = {2, 3, -1, 63, 64, 65, 65536, 2147483647, -2147483648};
        for (int tile : none) {
            Twin.none("use(" + tile + ")", x -> x.use(tile), Made::scanned,
                    Made::scannedHeadsOfAll);
        }
        Counted x = Made.with(Made::scanned);
        Check.same("use(0)", x.use(0), 0);
        Check.same("use(1)", x.use(1), 2);
    }

    static void theOnlyTile() {
        Use one = x -> {
            new Bytes().main(1, 1).barePart(0, 0, 0).end().feed(x);
            x.scan();
        };
        Check.same("use(0)", Made.with(one).use(0), 0);
        Twin.none("use(1)", x -> x.use(1), one);
        Twin.none("use(-1)", x -> x.use(-1), one);
    }

    /** Parts of 64 tiles, and in that of the last one these segments. */
    private static Bytes ofTile63(Bytes own) {
        Bytes all = new Bytes().main(64, 1);
        for (int t = 0; t < 63; t++) {
            all.barePart(t, 0, 1);
        }
        return all.part(63, 14 + own.size(), 0, 1).add(own).mark(147).end();
    }

    static void theLastOf64Tiles() {
        Counted x = ofTile63(new Bytes().segment(94, 0, 0, 29)).feed(new Counted());
        Check.same("scan", x.scan(), 0);
        Check.same("use(63)", x.use(63), 0);
        Check.same("its shift", x.get(31, 0, 0), 29);
        Check.same("use(62)", x.use(62), 0);
        Check.same("its shift", x.get(31, 0, 0), 0);
        Check.refuses("use(64)", NoSuchElementException.class, () -> x.use(64));
        Check.same("stays", x.get(31, 0, 0), 0);
    }

    /** Its segments are not there twice in a second scan, and gone with the stream. */
    static void theLastOf64TilesAgain() {
        Counted x = ofTile63(new Bytes().segment(94, 0, 0, 29).coding().steps().segment(95))
                .feed(new Counted());
        Check.same("scan", x.scan(), 0);
        Check.same("scan again", x.scan(), 0);
        ofTile63(new Bytes()).feed(x);
        Check.same("scan of another one", x.scan(), 0);
        Check.same("use(63)", x.use(63), 0);
        Check.same("its shift", x.get(31, 0, 0), 0);
    }

    /** The tiles are those of the stream, whatever the plan is now. */
    static void tilesOfTheStreamNotOfThePlan() {
        Counted x = Made.with(Made::scanned);
        x.plan();
        Check.same("use(1)", x.use(1), 2);
        Check.same("components", x.get(8, 0, 0), 2);
        x.picture(0, 0, 60, 1);
        x.tiles(0, 0, 1, 1);
        Check.refuses("use(2)", NoSuchElementException.class, () -> x.use(2));
        Check.same("the plan stays", x.get(2, 0, 0), 60);
    }

    /** A tile without segments of its own has the main plan. */
    static void noSegmentsOfItsOwn() {
        Use main = x -> {
            Made.streamOfTwoTiles().feed(x);
            x.scan();
        };
        Twin.planAndBytesStay("use(0)", x -> x.use(0), main);
        Twin.planAndBytesStay("use(1), use(0)", x -> {
            x.use(1);
            x.use(0);
        }, main);
        Twin.planAndBytesStay("use(1), scan()", x -> {
            x.use(1);
            x.scan();
        }, main);
    }

    static void foundAndHeadTellAsBefore() {
        Twin.streamStays("use(0)", x -> x.use(0), Made::scanned);
        Twin.streamStays("use(1)", x -> x.use(1), Made::scanned);
        Twin.streamStays("use(1)", x -> x.use(1), Made::scannedHeadsOfAll);
    }

    private static Bytes mainOfAll() {
        return new Bytes().start(2, 3).segment(82, 0, 1, 0, 2, 0, 3, 4, 4, 0, 1)
                .segment(92, 64, 1).segment(83, 1, 0, 5, 4, 4, 0, 1).segment(93, 1, 96, 2);
    }

    /** Main CODING, main ITS CODING, the tile's CODING, the tile's ITS CODING: the last counts. */
    static void theTilesCodingCountsForAllAgain() {
        Counted x = ofTile1(mainOfAll(), new Bytes().segment(82, 6, 2, 0, 7, 1, 9, 4, 4, 0, 1));
        check("main levels", x, 24, 3, 5, 3);
        x.use(1);
        check("levels", x, 24, 9, 9, 9);
        int[] general = {2, 7, 1, 1, 1};
        for (int i = 0; i < 5; i++) {
            Check.same("general", x.get(9 + i, 0, 0), general[i]);
        }
        check("guard", x, 30, 2, 3, 2);
        x.use(0);
        check("levels of tile 0", x, 24, 3, 5, 3);
        Check.same("order of tile 0", x.get(9, 0, 0), 1);
    }

    static void theTilesItsCodingCountsForOne() {
        Counted x = ofTile1(mainOfAll(), new Bytes().segment(83, 2, 0, 8, 4, 4, 0, 1));
        x.use(1);
        check("levels", x, 24, 3, 5, 8);
        Check.same("order", x.get(9, 0, 0), 1);
        Counted y = ofTile1(mainOfAll(), new Bytes().segment(83, 2, 0, 8, 4, 4, 0, 1)
                .segment(82, 0, 0, 0, 1, 0, 9, 4, 4, 0, 1));
        y.use(1);
        check("levels, its before that of all", y, 24, 9, 9, 8);
    }

    static void theTilesStepsCountForAllAgain() {
        Counted x = ofTile1(mainOfAll(), new Bytes().segment(92, 224, 9));
        check("main guard", x, 30, 2, 3, 2);
        x.use(1);
        check("guard", x, 30, 7, 7, 7);
        check("value", x, 34, 2304, 2304, 2304);
        check("levels", x, 24, 3, 5, 3);
    }

    static void theTilesItsStepsCountForOne() {
        Counted x = ofTile1(mainOfAll(), new Bytes().segment(93, 0, 33, 1, 1));
        x.use(1);
        check("kind", x, 29, 1, 0, 0);
        check("guard", x, 30, 1, 3, 2);
        check("value", x, 34, 257, 512, 256);
        Counted y = ofTile1(mainOfAll(), new Bytes().segment(93, 0, 33, 1, 1)
                .segment(92, 224, 9));
        y.use(1);
        check("guard, its before that of all", y, 30, 1, 7, 7);
    }

    /** Exponents and values of the main plan that the tile's segments don't tell are not kept. */
    static void whatTheTileDoesNotTell() {
        Bytes main = new Bytes().start(2, 1)
                .segment(82, 1, 0, 0, 1, 0, 2, 4, 4, 0, 1, 17, 17, 17)
                .segment(92, 66, 0, 1, 0, 2, 0, 3, 0, 4);
        Counted x = ofTile1(main, new Bytes().segment(82, 0, 0, 0, 1, 0, 2, 4, 4, 0, 1)
                .segment(92, 66, 0, 9));
        Check.same("main pw", x.get(32, 0, 2), 1);
        Check.same("main value", x.get(34, 0, 3), 4);
        x.use(1);
        for (int r = 0; r <= 2; r++) {
            Check.same("pw", x.get(32, 0, r), 15);
            Check.same("ph", x.get(33, 0, r), 15);
        }
        Check.same("value 0", x.get(34, 0, 0), 9);
        for (int k = 1; k <= 3; k++) {
            Check.same("value", x.get(34, 0, k), 0);
        }
    }

    /** The same of the tile's segments for one component. */
    static void whatTheTileDoesNotTellOfOne() {
        Bytes main = new Bytes().start(2, 2)
                .segment(82, 1, 0, 0, 1, 0, 2, 4, 4, 0, 1, 17, 17, 17)
                .segment(92, 66, 0, 1, 0, 2, 0, 3, 0, 4);
        Counted x = ofTile1(main, new Bytes().segment(83, 1, 0, 2, 4, 4, 0, 1)
                .segment(93, 1, 66, 0, 9));
        x.use(1);
        for (int r = 0; r <= 32; r++) {
            Check.same("pw", x.get(32, 1, r), 15);
            Check.same("ph", x.get(33, 1, r), 15);
            Check.same("pw of the other", x.get(32, 0, r), r <= 2 ? 1 : 15);
        }
        for (int k = 0; k <= 96; k++) {
            Check.same("value " + k, x.get(34, 1, k), k == 0 ? 9 : 0);
            Check.same("value " + k + " of the other", x.get(34, 0, k), k <= 3 ? k + 1 : 0);
        }
    }

    /** "a SHIFT of the tile instead of the main one of that component" */
    static void aShiftOfTheTile() {
        Bytes main = new Bytes().main(2, 3).segment(94, 0, 0, 5).segment(94, 1, 0, 6);
        Counted x = ofTile1(main, new Bytes().segment(94, 1, 0, 0).segment(94, 2, 0, 37));
        check("main", x, 31, 5, 6, 0);
        x.use(1);
        check("tile 1", x, 31, 5, 0, 37);
        x.use(0);
        check("tile 0", x, 31, 5, 6, 0);
    }

    /** "its CHANGES instead of the main ones": fewer, none, more. */
    static void changesOfTheTile() {
        int[][] own = {{}, {0, 0, 0, 9, 1, 1, 3}, {0, 0, 0, 9, 1, 1, 3, 0, 0, 0, 8, 1, 1, 3, 0, 0,
            0, 7, 1, 1, 3}};
        for (int[] told : own) {
            Bytes main = new Bytes().main(2, 1)
                    .segment(95, 0, 0, 0, 1, 1, 1, 0, 0, 0, 0, 2, 2, 2, 1);
            Counted x = ofTile1(main, new Bytes().segment(95, told));
            Check.same("main", x.get(14, 0, 0), 2);
            x.use(1);
            int count = told.length / 7;
            Check.same("tile 1", x.get(14, 0, 0), count);
            for (int a = 0; a < count; a++) {
                Check.same("layers' end", x.get(42, a, 0), 9 - a);
            }
            Check.refuses("no more", NoSuchElementException.class, () -> x.get(40, count, 0));
            x.use(0);
            Check.same("tile 0", x.get(14, 0, 0), 2);
            Check.same("its second", x.get(42, 1, 0), 2);
        }
    }

    /** Each component of sixteen in a tile. */
    static void allOfSixteenComponents() {
        Bytes own = new Bytes();
        for (int c = 0; c < 16; c++) {
            own.segment(94, c, 0, 20 + c);
        }
        Counted x = ofTile1(new Bytes().main(2, 16), own);
        x.use(1);
        for (int c = 0; c < 16; c++) {
            Check.same("shift", x.get(31, c, 0), 20 + c);
        }
        x.use(0);
        for (int c = 0; c < 16; c++) {
            Check.same("no shift", x.get(31, c, 0), 0);
        }
    }

    /** The tile of an earlier stream had segments, that of this one has none. */
    static void nothingOfAnEarlierStream() {
        Counted x = ofTile1(mainOfAll(), new Bytes().segment(94, 0, 0, 9).segment(95)
                .segment(82, 6, 2, 0, 7, 1, 9, 4, 4, 0, 1).segment(92, 224, 9));
        x.use(1);
        Check.same("shift", x.get(31, 0, 0), 9);
        x.clear();
        new Bytes().main(2, 3).barePart(1, 0, 0).barePart(0, 0, 0).end().feed(x);
        Check.same("scan", x.scan(), 0);
        x.use(1);
        check("shift", x, 31, 0, 0, 0);
        check("levels", x, 24, 0, 0, 0);
        check("guard", x, 30, 2, 2, 2);
        Check.same("layers", x.get(10, 0, 0), 1);
    }
}
