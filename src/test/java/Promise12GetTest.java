import java.util.NoSuchElementException;

/** Promise 12, get(): which numbers a plan has, and which not. */
public final class Promise12GetTest {
    private static final int MOST = 2147483647;
    private static final int LEAST = -2147483648;
    private static final int[] ANY = {0, 1, -1, 97, MOST, LEAST};

    public static void main(String[] args) throws ReflectiveOperationException {
        Check.runAll(Promise12GetTest.class);
    }

    private static void none(int what, int a, int b, Use... states) {
        Twin.none("get(" + what + ", " + a + ", " + b + ")", x -> x.get(what, a, b), states);
    }

    static void whatBelowZero() {
        Check.same("0", Made.with(Made::rich).get(0, 0, 0), 3);
        none(-1, 0, 0, Made::rich, Made::nothing);
        none(LEAST, 0, 0, Made::rich);
    }

    static void whatFrom15To19() {
        Check.same("14", Made.with(Made::rich).get(14, 0, 0), 2);
        for (int what = 15; what <= 19; what++) {
            none(what, 0, 0, Made::rich);
        }
        Check.same("20", Made.with(Made::rich).get(20, 0, 0), 8);
    }

    static void whatFrom35To39() {
        Check.same("34", Made.with(Made::rich).get(34, 1, 12), 40000);
        for (int what = 35; what <= 39; what++) {
            none(what, 0, 0, Made::rich);
        }
        Check.same("40", Made.with(Made::rich).get(40, 0, 0), 1);
    }

    static void whatAbove45() {
        Check.same("45", Made.with(Made::rich).get(45, 0, 0), 4);
        none(46, 0, 0, Made::rich);
        none(256, 0, 0, Made::rich);
        none(MOST, 0, 0, Made::rich);
    }

    /** Of the plan as a whole a and b are nothing. */
    static void anyOtherNumbersFrom0To14() {
        Counted x = Made.with(Made::rich);
        int[] due = {3, 5, 30, 40, 2, 4, 10, 9, 2, 3, 77, 1, 0, 1, 2};
        for (int what = 0; what <= 14; what++) {
            for (int any : ANY) {
                Check.same("get(" + what + ")", x.get(what, any, -any), due[what]);
            }
        }
    }

    static void allOfPictureAndTilesAreZeroIfThereIsNone() {
        Counted x = new Counted();
        x.component(8, false, 1, 1);
        for (int what = 0; what <= 7; what++) {
            Check.same("get(" + what + ")", x.get(what, 0, 0), 0);
        }
        Made.rich(x);
        x.plan();
        for (int what = 0; what <= 7; what++) {
            Check.same("again get(" + what + ")", x.get(what, 0, 0), 0);
        }
    }

    static void theComponentIsThere() {
        Counted x = Made.with(Made::rich);
        int[] due = {38, 1, 255, 2, 4, 5, 7, 33, 0, 2, 5, 17, 15, 15, 0};
        for (int what = 20; what <= 34; what++) {
            Check.same("get(" + what + ")", x.get(what, 1, 0), due[what - 20]);
            none(what, 2, 0, Made::rich, Made::scanned);
            none(what, -1, 0, Made::rich);
            none(what, MOST, 0, Made::rich);
            none(what, LEAST, 0, Made::rich);
            none(what, 0, 0, Made::nothing);
        }
        Check.same("15 of 16", Made.with(Made::great).get(27, 15, 0), 15);
        none(27, 16, 0, Made::great);
    }

    static void anyThirdNumberFrom20To31() {
        Counted x = Made.with(Made::rich);
        int[] due = {38, 1, 255, 2, 4, 5, 7, 33, 0, 2, 5, 17};
        for (int what = 20; what <= 31; what++) {
            for (int any : ANY) {
                Check.same("get(" + what + ")", x.get(what, 1, any), due[what - 20]);
            }
        }
    }

    static void levelFromZeroTo32() {
        Counted x = Made.with(Made::rich);
        Check.same("pw 0", x.get(32, 1, 0), 15);
        Check.same("ph 0", x.get(33, 1, 0), 15);
        Check.same("pw 32", x.get(32, 1, 32), 5);
        Check.same("ph 32", x.get(33, 1, 32), 6);
        for (int what = 32; what <= 33; what++) {
            none(what, 1, -1, Made::rich);
            none(what, 1, 33, Made::rich);
            none(what, 1, LEAST, Made::rich);
            none(what, 1, MOST, Made::rich);
        }
    }

    static void valueFromZeroTo96() {
        Counted x = Made.with(Made::rich);
        Check.same("value 0", x.get(34, 1, 0), 0);
        Check.same("value 96", x.get(34, 1, 96), 1);
        none(34, 1, -1, Made::rich);
        none(34, 1, 97, Made::rich);
        none(34, 1, LEAST, Made::rich);
        none(34, 1, MOST, Made::rich);
    }

    /** No levels, and one value of kind 1: the others are there all the same. */
    static void levelsAndValuesThatAreNotNeeded() {
        Counted x = Made.with(Made::small);
        x.steps(0, 1, 2, 0);
        x.step(0, 1, 77);
        x.precincts(0, 1, 3, 4);
        Check.same("pw 1", x.get(32, 0, 1), 3);
        Check.same("ph 32", x.get(33, 0, 32), 15);
        Check.same("value 1", x.get(34, 0, 1), 77);
        Check.same("value 96", x.get(34, 0, 96), 0);
        Counted y = Made.with(Made::scanned);
        Check.same("read: pw 32", y.get(32, 0, 32), 15);
        Check.same("read: value 96", y.get(34, 0, 96), 0);
    }

    static void theChangeIsThere() {
        Counted x = Made.with(Made::rich);
        int[] due = {0, 1, 3, 33, 16, 2};
        for (int what = 40; what <= 45; what++) {
            Check.same("get(" + what + ")", x.get(what, 1, 0), due[what - 40]);
            for (int any : ANY) {
                Check.same("any b", x.get(what, 1, any), due[what - 40]);
            }
            none(what, 2, 0, Made::rich);
            none(what, -1, 0, Made::rich);
            none(what, MOST, 0, Made::rich);
            none(what, LEAST, 0, Made::rich);
            none(what, 0, 0, Made::nothing);
        }
        Check.same("31 of 32", Made.with(Made::great).get(42, 31, 0), 1);
        none(42, 32, 0, Made::great);
    }

    /** Numbers that would meet a change again by the wrap-around of their place. */
    static void farChanges() {
        int[] far = {715827883, 1431655766, 1 << 30, -715827882};
        Counted x = Made.with(Made::great);
        for (int a : far) {
            Check.refuses("change " + a, NoSuchElementException.class, () -> x.get(40, a, 0));
        }
    }

    static void componentsEndOfZeroInAStreamIs256() {
        Counted x = new Bytes().main(1, 1)
                .segment(95, 0, 255, 0, 1, 1, 0, 0, 0, 254, 0, 1, 1, 255, 0)
                .barePart(0, 0, 0).end().feed(new Counted());
        Check.same("scan", x.scan(), 0);
        Check.same("0", x.get(44, 0, 0), 256);
        Check.same("255", x.get(44, 1, 0), 255);
        Check.same("first of 0", x.get(41, 0, 0), 255);
    }
}
