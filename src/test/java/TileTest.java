import java.util.NoSuchElementException;

/** Promises 22 to 24: the plans of tiles, their heads, and the parts. */
public final class TileTest {
    private static final Class<IllegalStateException> STATE = IllegalStateException.class;
    private static final Class<NoSuchElementException> NONE = NoSuchElementException.class;

    public static void main(String[] args) {
        usePlans();
        useRefused();
        useAfterOtherPlans();
        useLastTile();
        headsOfTiles();
        headsOfAll();
        headsOfAllEndEarly();
        headRefused();
        found();
        foundRefused();
        Check.end("TileTest");
    }

    private static void checkGets(String when, Counted x, int what, int... due) {
        for (int c = 0; c < due.length; c++) {
            Check.same(when + " get(" + what + ", " + c + ")", x.get(what, c, 0), due[c]);
        }
    }

    private static Counted richStream() {
        Bytes main = new Bytes().start(3, 3)
                .segment(83, 1, 1, 1, 0, 0, 1, 0, 18, 52)
                .segment(82, 2, 1, 0, 10, 0, 3, 4, 4, 2, 1)
                .segment(93, 2, 33, 0, 200)
                .segment(92, 64, 1, 2, 3, 4)
                .segment(94, 0, 0, 5)
                .segment(94, 2, 0, 6)
                .segment(95, 0, 0, 0, 1, 1, 1, 0, 0, 0, 0, 2, 2, 2, 1);
        Bytes zero = new Bytes().segment(83, 2, 0, 7, 1, 1, 3, 1)
                .segment(93, 0, 98, 1, 1)
                .segment(94, 2, 0, 0);
        Bytes one = new Bytes().segment(83, 0, 0, 9, 2, 2, 5, 0)
                .segment(82, 5, 4, 0, 20, 1, 0, 3, 3, 4, 0, 238)
                .segment(93, 1, 0, 9)
                .segment(92, 225, 3, 4)
                .segment(95);
        Bytes two = new Bytes().segment(95, 3, 3, 0, 3, 4, 4, 3).segment(94, 1, 0, 7);
        Bytes all = new Bytes().add(main)
                .part(1, 14 + one.size(), 0, 0).add(one).mark(147)
                .part(0, 14 + zero.size(), 0, 0).add(zero).mark(147)
                .part(2, 14 + two.size(), 0, 0).add(two).mark(147).end();
        Counted x = all.feed(new Counted());
        Check.same("22 scan", x.scan(), 0);
        return x;
    }

    private static void usePlans() {
        Counted x = richStream();
        checkMain("22 main", x);
        Check.same("22 use(1)", x.use(1), 0);
        checkGets("22 tile 1 levels", x, 24, 9, 0, 0);
        checkGets("22 tile 1 bw", x, 25, 4, 5, 5);
        checkGets("22 tile 1 style", x, 27, 5, 4, 4);
        checkGets("22 tile 1 exact", x, 28, 0, 0, 0);
        checkGets("22 tile 1 pw", x, 32, 15, 14, 14);
        checkGets("22 tile 1 kind", x, 29, 1, 0, 1);
        checkGets("22 tile 1 guard", x, 30, 7, 0, 7);
        checkGets("22 tile 1 value", x, 34, 772, 2304, 772);
        checkGets("22 tile 1 shift", x, 31, 5, 0, 6);
        int[] general = {4, 20, 1, 0, 1, 0};
        for (int i = 0; i < general.length; i++) {
            Check.same("22 tile 1 general", x.get(9 + i, 0, 0), general[i]);
        }
        Check.same("22 use(0)", x.use(0), 0);
        checkGets("22 tile 0 levels", x, 24, 3, 1, 7);
        checkGets("22 tile 0 style", x, 27, 2, 1, 3);
        checkGets("22 tile 0 ph", x, 33, 15, 1, 15);
        checkGets("22 tile 0 kind", x, 29, 2, 0, 1);
        checkGets("22 tile 0 guard", x, 30, 3, 2, 1);
        checkGets("22 tile 0 value", x, 34, 257, 256, 200);
        Check.same("22 tile 0 value 1", x.get(34, 0, 1), 0);
        Check.same("22 tile 0 value 3 of 1", x.get(34, 1, 3), 1024);
        checkGets("22 tile 0 shift", x, 31, 5, 0, 0);
        Check.same("22 tile 0 order", x.get(9, 0, 0), 1);
        Check.same("22 tile 0 changes", x.get(14, 0, 0), 2);
        Check.same("22 use(2)", x.use(2), 0);
        checkGets("22 tile 2 levels", x, 24, 3, 1, 3);
        checkGets("22 tile 2 shift", x, 31, 5, 7, 6);
        Check.same("22 tile 2 changes", x.get(14, 0, 0), 1);
        checkGets("22 tile 2 change", x, 42, 3);
        Check.same("22 picture", x.get(2, 0, 0), 12);
        Check.same("22 components", x.get(8, 0, 0), 3);
        Check.same("22 scan again", x.scan(), 0);
        checkMain("22 main again", x);
    }

    private static void checkMain(String when, Counted x) {
        checkGets(when + " levels", x, 24, 3, 1, 3);
        checkGets(when + " pw", x, 32, 15, 2, 15);
        checkGets(when + " ph", x, 33, 15, 1, 15);
        Check.same(when + " pw 1", x.get(32, 1, 1), 4);
        Check.same(when + " ph 1", x.get(33, 1, 1), 3);
        Check.same(when + " pw 2", x.get(32, 1, 2), 15);
        checkGets(when + " kind", x, 29, 0, 0, 1);
        checkGets(when + " shift", x, 31, 5, 0, 6);
        checkGets(when + " value", x, 34, 256, 256, 200);
        Check.same(when + " order", x.get(9, 0, 0), 1);
        Check.same(when + " layers", x.get(10, 0, 0), 10);
        Check.same(when + " ahead", x.get(12, 0, 0), 1);
        Check.same(when + " behind", x.get(13, 0, 0), 0);
        Check.same(when + " changes", x.get(14, 0, 0), 2);
    }

    private static void useRefused() {
        Counted x = richStream();
        Check.refuses("22 use(3)", NONE, () -> x.use(3));
        Check.refuses("22 use(-1)", NONE, () -> x.use(-1));
        Check.refuses("22 use(65536)", NONE, () -> x.use(65536));
        checkMain("22 stays", x);
        x.spoil(0, 255);
        Check.refuses("22 not scanned", STATE, () -> x.use(0));
        Check.refuses("22 not scanned first", STATE, () -> x.use(-1));
        Check.refuses("23 not scanned", STATE, () -> x.head(0, 0));
        Check.refuses("24 not scanned", STATE, () -> x.found(-1, 0));
        checkMain("22 the plan stays", x);
        Check.same("22 scan", x.scan(), 0);
        Check.same("22 use", x.use(1), 0);
    }

    /** The plan of a tile is made of the stream, whatever the plan is now. */
    private static void useAfterOtherPlans() {
        Counted x = richStream();
        x.plan();
        x.picture(0, 0, 1, 1);
        x.component(3, true, 1, 1);
        x.steps(0, 2, 2, 2);
        x.step(0, 96, 4);
        x.precincts(0, 30, 1, 1);
        Check.same("22 use", x.use(2), 0);
        Check.same("22 components", x.get(8, 0, 0), 3);
        Check.same("22 bits", x.get(20, 0, 0), 8);
        Check.same("22 signed", x.get(21, 0, 0), 0);
        Check.same("22 value 96", x.get(34, 0, 96), 0);
        Check.same("22 pw 30", x.get(32, 0, 30), 15);
        Check.same("22 x1", x.get(2, 0, 0), 12);
        Check.same("22 found as before", x.found(-1, 0), 3);
        Check.refuses("22 tiles of the stream", NONE, () -> x.use(3));
    }

    /** The 64th tile, with all that a plan may have of its own, of the 16th component. */
    private static void useLastTile() {
        Bytes all = new Bytes().main(64, 16);
        for (int t = 0; t < 63; t++) {
            all.barePart(t, 0, 1);
        }
        Bytes its = new Bytes().segment(94, 15, 0, 30).segment(93, 15, 97, 1, 2)
                .segment(83, 15, 0, 3, 0, 0, 9, 0).segment(95, 0, 0, 0, 1, 1, 1, 2);
        int place = all.size() + 12 + its.size();
        Bytes twice = new Bytes().add(all).part(63, 14 + its.size() + 7, 0, 0).add(its)
                .segment(94, 15, 0, 30).mark(147).end();
        twice.refused("22 twice in the last tile", 4, place);
        Counted x = all.part(63, 14 + its.size() + 5, 0, 0).add(its).segment(97, 0).mark(147)
                .end().feed(new Counted());
        Check.same("22 scan", x.scan(), 0);
        Check.same("22 use(63)", x.use(63), 0);
        int[] due = {3, 2, 2, 9, 0, 1, 3, 30};
        for (int i = 0; i < due.length; i++) {
            Check.same("22 last get(" + (24 + i) + ")", x.get(24 + i, 15, 0), due[i]);
        }
        Check.same("22 last value", x.get(34, 15, 0), 258);
        Check.same("22 last change", x.get(45, 0, 0), 2);
        Check.same("22 component 14", x.get(31, 14, 0), 0);
        Check.same("22 use(62)", x.use(62), 0);
        Check.same("22 tile 62 shift", x.get(31, 15, 0), 0);
        Check.same("22 tile 62 changes", x.get(14, 0, 0), 0);
        Check.refuses("22 use(64)", NONE, () -> x.use(64));
    }

    private static Counted tileHeads() {
        Counted x = new Bytes().main(3, 1)
                .part(0, 14 + 7 + 5, 0, 0).segment(97, 0, 10, 11).segment(97, 1).mark(147)
                .part(1, 14 + 8 + 1, 0, 0).segment(97, 0, 20, 21, 22).mark(147).u1(99)
                .barePart(2, 0, 0)
                .part(0, 14 + 6 + 6, 1, 0).segment(97, 2, 12).segment(100, 55, 56).mark(147)
                .barePart(0, 2, 3)
                .part(0, 0, 3, 0).segment(97, 3, 13, 255).mark(147).end()
                .feed(new Counted());
        Check.same("23 three of four parts", x.scan(), 6);
        return x;
    }

    private static void headsOfTiles() {
        Counted x = tileHeads();
        // The fifth part's count becomes 4.
        int fifth = 65 + 26 + 23 + 14 + 26;
        x.spoil(fifth + 11, 4);
        Check.same("23 scan", x.scan(), 0);
        int[][] due = {{10, 11, 12, 13, 255}, {20, 21, 22}, {}};
        checkHeads("23 of tiles", x, due);
    }

    private static void checkHeads(String when, Counted x, int[][] due) {
        for (int tile = 0; tile < due.length; tile++) {
            int t = tile;
            Check.same(when + " use(" + t + ")", x.use(t), due[t].length);
            for (int i = 0; i < due[t].length; i++) {
                Check.same(when + " head(" + t + ", " + i + ")", x.head(t, i), due[t][i]);
            }
            Check.refuses(when + " beyond", NONE, () -> x.head(t, due[t].length));
            Check.refuses(when + " below", NONE, () -> x.head(t, -1));
            Check.refuses(when + " far", NONE, () -> x.head(t, 2147483647));
            Check.refuses(when + " far below", NONE, () -> x.head(t, -2147483648));
        }
    }

    private static Counted ofAll(int... heads) {
        int cut = heads.length / 2;
        int[] first = new int[1 + cut];
        int[] second = new int[1 + heads.length - cut];
        second[0] = 1;
        System.arraycopy(heads, 0, first, 1, cut);
        System.arraycopy(heads, cut, second, 1, heads.length - cut);
        Counted x = new Bytes().start(2, 1).segment(96, first).coding().segment(96, second)
                .steps().segment(96, 2).barePart(1, 0, 0).barePart(0, 0, 0).barePart(1, 1, 2).end()
                .feed(new Counted());
        Check.same("23 scan", x.scan(), 0);
        return x;
    }

    private static void headsOfAll() {
        checkHeads("23 of all", ofAll(0, 0, 0, 2, 7, 8, 0, 0, 0, 3, 1, 2, 3, 0, 0, 0, 1, 9),
                new int[][] {{1, 2, 3}, {7, 8, 9}});
        checkHeads("23 none of one", ofAll(0, 0, 0, 0, 0, 0, 0, 1, 5, 0, 0, 0, 2, 255, 0),
                new int[][] {{5}, {255, 0}});
        checkHeads("23 some behind", ofAll(0, 0, 0, 1, 4, 0, 0, 0, 1, 5, 0, 0, 0, 1, 6, 7, 8),
                new int[][] {{5}, {4, 6}});
    }

    private static void headsOfAllEndEarly() {
        checkHeads("23 no bytes", ofAll(), new int[][] {{}, {}});
        checkHeads("23 three bytes", ofAll(0, 0, 0), new int[][] {{}, {}});
        checkHeads("23 n alone", ofAll(0, 0, 0, 9), new int[][] {{}, {}});
        checkHeads("23 fewer than n", ofAll(0, 0, 0, 9, 1, 2), new int[][] {{}, {1, 2}});
        checkHeads("23 n without sign", ofAll(255, 255, 255, 255, 1, 2),
                new int[][] {{}, {1, 2}});
        checkHeads("23 n of 2^31", ofAll(0, 0, 0, 1, 3, 128, 0, 0, 0, 4),
                new int[][] {{4}, {3}});
        checkHeads("23 then three", ofAll(0, 0, 0, 1, 3, 0, 0, 0), new int[][] {{}, {3}});
        checkHeads("23 ends with the second", ofAll(0, 0, 0, 0, 0, 0, 0, 1, 6),
                new int[][] {{6}, {}});
    }

    private static void headRefused() {
        Counted x = ofAll(0, 0, 0, 1, 3);
        Check.refuses("23 tile 2", NONE, () -> x.head(2, 0));
        Check.refuses("23 tile -1", NONE, () -> x.head(-1, 0));
        Check.same("23 head", x.head(1, 0), 3);
        Check.same("23 plan stays", x.get(10, 0, 0), 1);
        Counted y = tileHeads();
        Check.refuses("23 refused, so not scanned", STATE, () -> y.head(0, 0));
        Check.refuses("23 not scanned first", STATE, () -> y.head(-1, -1));
    }

    private static void found() {
        Counted x = new Bytes().main(2, 1).barePart(1, 0, 2)
                .part(0, 14 + 5 + 3, 0, 0).segment(100, 1).mark(147).u1(1, 2, 3)
                .part(1, 0, 1, 2).segment(97, 0).mark(147).u1(8, 9).end().feed(new Counted());
        Check.same("24 scan", x.scan(), 0);
        int[][] due = {{1, 0, 2, 79, 0}, {0, 0, 0, 98, 3}, {1, 1, 2, 120, 2}};
        for (int round = 0; round < 2; round++) {
            for (int k = 0; k < 3; k++) {
                for (int what = 0; what < 5; what++) {
                    Check.same("24 found(" + k + ", " + what + ")", x.found(k, what),
                            due[k][what]);
                }
            }
            int[] any = {0, -1, 5, 99, 2147483647, -2147483648};
            for (int what : any) {
                Check.same("24 found(-1)", x.found(-1, what), 3);
            }
            x.use(0);
            x.plan();
        }
        Check.same("24 the byte there", x.at(x.found(2, 3)), 8);
        Counted y = new Bytes().main(1, 1).barePart(0, 0, 0).barePart(0, 1, 2).end().u1(1, 2)
                .feed(new Counted());
        Check.same("24 scan", y.scan(), 0);
        Check.same("24 parts told by itself", y.found(0, 2), 0);
        Check.same("24 parts told by the other", y.found(1, 2), 2);
    }

    private static void foundRefused() {
        Counted x = new Bytes().main(1, 1).barePart(0, 0, 0).end().feed(new Counted());
        Check.refuses("24 not scanned", STATE, () -> x.found(-1, 0));
        Check.refuses("24 not scanned first", STATE, () -> x.found(9, 9));
        x.scan();
        Check.refuses("24 part 1", NONE, () -> x.found(1, 0));
        Check.refuses("24 part -2", NONE, () -> x.found(-2, 0));
        Check.refuses("24 what 5", NONE, () -> x.found(0, 5));
        Check.refuses("24 what -1", NONE, () -> x.found(0, -1));
        Check.refuses("24 far", NONE, () -> x.found(2147483647, 0));
        x.clear();
        Check.refuses("24 cleared", STATE, () -> x.found(-1, 0));
    }
}
