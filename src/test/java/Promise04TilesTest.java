/** Promise 4, tiles(): the first one has some of the picture's first column and row; 64 of them. */
public final class Promise04TilesTest {
    private static final int MOST = 2147483647;
    private static final int LEAST = -2147483648;

    public static void main(String[] args) throws ReflectiveOperationException {
        Check.runAll(Promise04TilesTest.class);
    }

    /** Columns 10 .. 39, rows 20 .. 59. */
    private static void some(Counted x) {
        Made.rich(x);
        x.picture(10, 20, 40, 60);
        x.tiles(9, 19, 8, 11);
    }

    private static void taken(Use picture, int... t) {
        Counted x = Made.with(picture);
        int[] area = {x.get(0, 0, 0), x.get(1, 0, 0), x.get(2, 0, 0), x.get(3, 0, 0)};
        x.tiles(t[0], t[1], t[2], t[3]);
        for (int i = 0; i < 4; i++) {
            Check.same("picture", x.get(i, 0, 0), area[i]);
            Check.same("tiles", x.get(4 + i, 0, 0), t[i]);
        }
    }

    private static void refused(Use picture, int... t) {
        String what = "tiles(" + t[0] + ", " + t[1] + ", " + t[2] + ", " + t[3] + ")";
        Twin.argument(what, x -> x.tiles(t[0], t[1], t[2], t[3]), picture);
    }

    private static Use picture(int x1, int y1) {
        return x -> x.picture(0, 0, x1, y1);
    }

    static void noPicture() {
        Twin.state("values", x -> x.tiles(0, 0, 1, 1), Made::nothing);
        Twin.state("no values", x -> x.tiles(-1, -1, 0, 0), Made::nothing);
        Twin.state("behind plan()", x -> x.tiles(0, 0, 40, 60), x -> {
            Made.rich(x);
            x.plan();
        });
    }

    static void xIsZeroOrMore() {
        taken(Promise04TilesTest::some, 0, 20, 40, 40);
        refused(Promise04TilesTest::some, -1, 20, 41, 40);
        refused(Promise04TilesTest::some, LEAST, 20, MOST, 40);
    }

    static void yIsZeroOrMore() {
        taken(Promise04TilesTest::some, 10, 0, 40, 60);
        refused(Promise04TilesTest::some, 10, -1, 40, 61);
        refused(Promise04TilesTest::some, 10, LEAST, 40, MOST);
    }

    static void xIsNotAboveX0() {
        taken(Promise04TilesTest::some, 10, 20, 30, 40);
        refused(Promise04TilesTest::some, 11, 20, 30, 40);
        refused(Promise04TilesTest::some, MOST, 20, 30, 40);
    }

    static void yIsNotAboveY0() {
        taken(Promise04TilesTest::some, 9, 20, 30, 40);
        refused(Promise04TilesTest::some, 9, 21, 30, 40);
        refused(Promise04TilesTest::some, 9, MOST, 30, 40);
    }

    static void theFirstHasSomeOfTheFirstColumn() {
        taken(Promise04TilesTest::some, 5, 20, 6, 40);
        refused(Promise04TilesTest::some, 5, 20, 5, 40);
        taken(Promise04TilesTest::some, 0, 20, 11, 40);
        refused(Promise04TilesTest::some, 0, 20, 10, 40);
    }

    static void theFirstHasSomeOfTheFirstRow() {
        taken(Promise04TilesTest::some, 10, 5, 30, 16);
        refused(Promise04TilesTest::some, 10, 5, 30, 15);
        taken(Promise04TilesTest::some, 10, 0, 30, 21);
        refused(Promise04TilesTest::some, 10, 0, 30, 20);
    }

    static void wideIsOneOrMore() {
        taken(Promise04TilesTest::some, 10, 20, 1, 40);
        refused(Promise04TilesTest::some, 10, 20, 0, 40);
        refused(Promise04TilesTest::some, 10, 20, -1, 40);
        refused(Promise04TilesTest::some, 10, 20, LEAST, 40);
    }

    static void highIsOneOrMore() {
        taken(x -> x.picture(10, 20, 11, 84), 10, 20, 1, 1);
        refused(x -> x.picture(10, 20, 11, 84), 10, 20, 1, 0);
        refused(x -> x.picture(10, 20, 11, 84), 10, 20, 1, -1);
        refused(x -> x.picture(10, 20, 11, 84), 10, 20, 1, LEAST);
    }

    /** x + wide goes beyond 2^31 without a sign. */
    static void wideAndHighUpToTwoTo31Less1() {
        taken(Promise04TilesTest::some, 0, 0, MOST, MOST);
        taken(Promise04TilesTest::some, 10, 20, MOST, MOST);
        Use far = x -> x.picture(MOST - 1, MOST - 1, MOST, MOST);
        taken(far, MOST - 1, MOST - 1, MOST, MOST);
        taken(far, MOST - 1, MOST - 1, 1, 1);
        taken(far, 0, 0, MOST, MOST);
        refused(far, 0, 0, MOST - 1, MOST);
        refused(far, 0, 0, MOST, MOST - 1);
    }

    static void sixtyFourSideBySide() {
        taken(picture(64, 1), 0, 0, 1, 1);
        refused(picture(65, 1), 0, 0, 1, 1);
        taken(picture(640, 1), 0, 0, 10, 1);
        refused(picture(641, 1), 0, 0, 10, 1);
    }

    static void sixtyFourOnTopOfEachOther() {
        taken(picture(1, 64), 0, 0, 1, 1);
        refused(picture(1, 65), 0, 0, 1, 1);
        taken(picture(1, 640), 0, 0, 1, 10);
        refused(picture(1, 641), 0, 0, 1, 10);
    }

    static void sixtyFourBothWays() {
        taken(picture(8, 8), 0, 0, 1, 1);
        taken(picture(9, 7), 0, 0, 1, 1);
        refused(picture(13, 5), 0, 0, 1, 1);
        refused(picture(5, 13), 0, 0, 1, 1);
        refused(picture(8, 9), 0, 0, 1, 1);
    }

    /** The first one begins where the tiles do, left of the picture and above it. */
    static void theyAreCountedFromTheFirst() {
        Use shifted = x -> x.picture(9, 0, 640, 1);
        taken(shifted, 0, 0, 10, 1);
        refused(shifted, 9, 0, 9, 1);
        taken(x -> x.picture(9, 0, 641, 1), 1, 0, 10, 1);
        refused(x -> x.picture(9, 0, 642, 1), 1, 0, 10, 1);
    }

    static void veryManyAreNotFew() {
        refused(picture(MOST, MOST), 0, 0, 1, 1);
        refused(picture(65536, 65536), 0, 0, 1, 1);
        refused(picture(MOST, MOST), 0, 0, 32768, 32768);
        refused(picture(MOST, 2), 0, 0, 1, 1);
        taken(picture(MOST, MOST), 0, 0, 268435456, 268435456);
        refused(picture(MOST, MOST), 0, 0, 268435456, 238609294);
    }

    static void theStreamStays() {
        Twin.streamStays("tiles", x -> x.tiles(0, 0, 8, 4), Made::scanned);
    }
}
