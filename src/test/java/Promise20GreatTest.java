/** Promise 20, scan(), number 7: more than 16 components, 64 tiles, 255 layers, 256 parts .. */
public final class Promise20GreatTest {
    private static final long MOST = 0x7fffffffL;

    public static void main(String[] args) throws ReflectiveOperationException {
        Check.runAll(Promise20GreatTest.class);
    }

    static void sixteenComponents() {
        new Bytes().main(1, 16).barePart(0, 0, 0).end().accepted("16");
        new Bytes().main(1, 17).barePart(0, 0, 0).end().refused("17", 7, 2);
        new Bytes().main(1, 100).refused("100", 7, 2);
    }

    /** The components and the picture need not be values. */
    static void seventeenComponentsWhateverTheyAre() {
        new Bytes().main(1, 17).set(42, 127).refused("bits of the first", 7, 2);
        new Bytes().main(1, 17).set(91, 0).refused("dx of the last", 7, 2);
        new Bytes().main(1, 17).set(8, 255).refused("x1", 7, 2);
        new Bytes().main(1, 17).set(11, 0).refused("no picture", 7, 2);
        new Bytes().main(1, 17).set(27, 0).refused("no tiles", 7, 2);
    }

    /** So many tiles of this wide and high. */
    private static void tiles(int count, long x1, long y1, long wide, long high) {
        Bytes x = new Bytes().startOf(0, 0, x1, y1, 0, 0, wide, high).coding().steps();
        for (int t = 0; t < count && count <= 64; t++) {
            x.barePart(t, 0, 1);
        }
        String what = x1 + " by " + y1 + " in " + wide + " by " + high;
        x.end().refused(what, count <= 64 ? 0 : 7, count <= 64 ? -1 : 2);
    }

    static void sixtyFourTilesInARow() {
        tiles(64, 64, 1, 1, 1);
        tiles(65, 65, 1, 1, 1);
        tiles(64, 640, 3, 10, 3);
        tiles(65, 641, 3, 10, 3);
        tiles(64, 631, 3, 10, 4);
    }

    static void sixtyFourTilesInAColumn() {
        tiles(64, 1, 64, 1, 1);
        tiles(65, 1, 65, 1, 1);
        tiles(64, 3, 640, 3, 10);
        tiles(65, 3, 641, 3, 10);
    }

    static void sixtyFourTilesBothWays() {
        tiles(64, 8, 8, 1, 1);
        tiles(63, 9, 7, 1, 1);
        tiles(65, 13, 5, 1, 1);
        tiles(65, 5, 13, 1, 1);
        tiles(72, 9, 8, 1, 1);
    }

    /** Also if their number would be small, or 0, by the wrap-around. */
    static void veryManyTiles() {
        tiles(65, MOST, MOST, 1, 1);
        tiles(65, 65536, 65536, 1, 1);
        tiles(65, MOST, MOST, 32768, 32768);
        tiles(65, MOST, 2, 1, 1);
        tiles(64, MOST, MOST, 268435456, 268435456);
        tiles(65, MOST, MOST, 268435456, 238609294);
    }

    static void tilesAreCountedFromTheFirst() {
        Bytes x = new Bytes().startOf(9, 0, 641, 1, 1, 0, 10, 1).coding().steps();
        for (int t = 0; t < 64; t++) {
            x.barePart(t, 0, 1);
        }
        x.end().accepted("64 from 1 on");
        new Bytes().startOf(9, 0, 641, 1, 0, 0, 10, 1).refused("65 from 0 on", 7, 2);
    }

    /** "(if picture and tiles are values)": else it is 5. */
    static void manyTilesThatAreNoValues() {
        new Bytes().startOf(0, 0, 65, 1, 1, 0, 1, 1).refused("x above x0", 5, 2);
        new Bytes().startOf(65, 0, 65, 1, 0, 0, 1, 1).refused("x0 is x1", 5, 2);
        new Bytes().startOf(1, 0, 65, 1, 0, 0, 1, 1).refused("beside the picture", 5, 2);
        new Bytes().startOf(0, 0, 0x80000000L, 1, 0, 0, 1, 1).refused("x1 is 2^31", 5, 2);
        new Bytes().startOf(0, 0, 65, 1, 0, 0, 1, 0).refused("high 0", 5, 2);
    }

    /** The components need not be values for that. */
    static void manyTilesOfAComponentThatIsNoValue() {
        new Bytes().startOf(0, 0, 65, 1, 0, 0, 1, 1).set(42, 38).refused("bits 39", 7, 2);
        new Bytes().startOf(0, 0, 65, 1, 0, 0, 1, 1).set(43, 0).refused("dx 0", 7, 2);
        new Bytes().startOf(0, 0, 65, 1, 0, 0, 1, 1).cutTo(42).set(5, 38).set(41, 0)
                .refused("no components", 7, 2);
    }

    static void layersUpTo255() {
        Spot.both("255", 0, 82, 0, 0, 0, 255, 0, 0, 4, 4, 0, 1);
        Spot.both("256", 7, 82, 0, 0, 1, 0, 0, 0, 4, 4, 0, 1);
        Spot.both("257", 7, 82, 0, 0, 1, 1, 0, 0, 4, 4, 0, 1);
        Spot.both("32768", 7, 82, 0, 0, 128, 0, 0, 0, 4, 4, 0, 1);
        Spot.both("65535", 7, 82, 0, 0, 255, 255, 0, 0, 4, 4, 0, 1);
    }

    private static Bytes parts(int count) {
        Bytes x = new Bytes().main(2, 1).barePart(1, 0, 1);
        for (int n = 0; n < count - 1; n++) {
            x.barePart(0, n, 0);
        }
        return x;
    }

    static void partsOfAllTilesUpTo256() {
        parts(255).end().accepted("255");
        parts(256).end().accepted("256");
        parts(256).barePart(0, 255, 0).end().refused("257", 7, 65 + 256 * 14);
        Counted x = parts(256).end().feed(new Counted());
        Check.same("scan", x.scan(), 0);
        Check.same("found", x.found(-1, 0), 256);
        Check.same("the last", x.found(255, 1), 254);
    }

    private static int[] changes(int count) {
        Bytes x = new Bytes();
        for (int n = 0; n < count; n++) {
            x.u1(0, 0, 0, 1, 1, 1, n % 5);
        }
        return x.toArray();
    }

    static void changesUpTo32() {
        Spot.both("31", 0, 95, changes(31));
        Spot.both("32", 0, 95, changes(32));
        Spot.both("33", 7, 95, changes(33));
        Spot.both("40", 7, 95, changes(40));
        Counted x = new Bytes().main(1, 1).segment(95, changes(32)).barePart(0, 0, 0).end()
                .feed(new Counted());
        Check.same("scan", x.scan(), 0);
        Check.same("changes", x.get(14, 0, 0), 32);
        Check.same("the last", x.get(45, 31, 0), 31 % 5);
    }

    /** 32 of the main ones and 32 of a tile are not 64. */
    static void changesOfATileAreInsteadOfTheMainOnes() {
        Counted x = new Counted();
        Made.small(x);
        for (int n = 0; n < 32; n++) {
            x.change(0, 0, 1, 1, 1, n % 5);
        }
        x.write();
        new Bytes().part(0, 14 + 4 + 224, 0, 0).segment(95, changes(32)).mark(147).end()
                .feedMore(x);
        Check.same("scan", x.scan(), 0);
        Check.same("use", x.use(0), 0);
        Check.same("changes", x.get(14, 0, 0), 32);
    }
}
