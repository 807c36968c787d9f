/** Promise 2, plan(): the plan is empty again, and nothing else changes. */
public final class Promise02PlanTest {
    public static void main(String[] args) throws ReflectiveOperationException {
        Check.runAll(Promise02PlanTest.class);
    }

    private static void checkEmpty(String when, Counted x) {
        for (int what = 0; what <= 14; what++) {
            Check.same(when + " get(" + what + ")", x.get(what, 0, 0), what == 10 ? 1 : 0);
        }
        Check.refuses(when + " component", java.util.NoSuchElementException.class,
                () -> x.get(20, 0, 0));
        Check.refuses(when + " change", java.util.NoSuchElementException.class,
                () -> x.get(40, 0, 0));
        Check.refuses(when + " tiles", IllegalStateException.class, () -> x.tiles(0, 0, 1, 1));
        Check.refuses(when + " write", IllegalStateException.class, x::write);
    }

    static void anEmptyOneStaysEmpty() {
        Counted x = new Counted();
        x.plan();
        x.plan();
        checkEmpty("empty", x);
    }

    static void whatWasToldIsGone() {
        Counted x = Made.with(Made::rich);
        x.plan();
        checkEmpty("rich", x);
    }

    static void whatWasReadIsGone() {
        Counted x = Made.with(Made::scanned);
        x.plan();
        checkEmpty("read", x);
    }

    static void thereIsRoomForAllAgain() {
        Counted x = Made.with(Made::great);
        x.plan();
        checkEmpty("great", x);
        for (int c = 0; c < 16; c++) {
            Check.same("component", x.component(1, false, 1, 1), c);
        }
        for (int n = 1; n <= 32; n++) {
            Check.same("change", x.change(0, 0, 1, 1, 1, 0), n);
        }
        Check.refuses("a 17th", IllegalStateException.class, () -> x.component(1, false, 1, 1));
        Check.refuses("a 33rd", IllegalStateException.class, () -> x.change(0, 0, 1, 1, 1, 0));
    }

    /** A component that comes then has nothing of the one that bore its number. */
    static void aNewComponentIsNew() {
        Counted x = Made.with(Made::rich);
        x.plan();
        x.component(8, false, 1, 1);
        x.component(8, false, 1, 1);
        int[] due = {8, 0, 1, 1, 0, 6, 6, 0, 1, 0, 2, 0};
        for (int i = 0; i < due.length; i++) {
            Check.same("get(" + (20 + i) + ")", x.get(20 + i, 1, 0), due[i]);
        }
        for (int r = 0; r <= 32; r++) {
            Check.same("pw", x.get(32, 1, r), 15);
            Check.same("ph", x.get(33, 1, r), 15);
        }
        for (int k = 0; k <= 96; k++) {
            Check.same("value", x.get(34, 1, k), 0);
        }
    }

    static void theStreamStays() {
        Twin.streamStays("not scanned", Counted::plan, Made::rich);
        Twin.streamStays("scanned", Counted::plan, Made::scanned);
        Twin.streamStays("heads of all", Counted::plan, Made::scannedHeadsOfAll);
    }
}
