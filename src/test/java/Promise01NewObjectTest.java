/** Promise 1, a new object: what is empty in it, and what holds of all calls. */
public final class Promise01NewObjectTest {
    public static void main(String[] args) throws ReflectiveOperationException {
        Check.runAll(Promise01NewObjectTest.class);
    }

    static void noPicture() {
        Counted x = new Counted();
        for (int what = 0; what <= 7; what++) {
            Check.same("get(" + what + ")", x.get(what, 0, 0), 0);
        }
        Check.refuses("tiles", IllegalStateException.class, () -> x.tiles(0, 0, 1, 1));
        Check.refuses("write", IllegalStateException.class, x::write);
    }

    static void noComponents() {
        Counted x = new Counted();
        Check.same("get(8)", x.get(8, 0, 0), 0);
        Twin.none("component 0", y -> y.get(20, 0, 0), Made::nothing);
        Check.same("the first", x.component(1, false, 1, 1), 0);
    }

    static void orderZeroAndOneLayer() {
        Counted x = new Counted();
        int[] due = {0, 1, 0, 0, 0};
        for (int i = 0; i < due.length; i++) {
            Check.same("get(" + (9 + i) + ")", x.get(9 + i, 0, 0), due[i]);
        }
    }

    static void noChanges() {
        Counted x = new Counted();
        Check.same("get(14)", x.get(14, 0, 0), 0);
        Twin.none("change 0", y -> y.get(40, 0, 0), Made::nothing);
        Check.same("the first", x.change(0, 0, 1, 1, 1, 0), 1);
    }

    static void emptyStream() {
        Counted x = new Counted();
        Check.same("at(-1)", x.at(-1), 0);
        Twin.none("at(0)", y -> y.at(0), Made::nothing);
        Twin.none("spoil(0)", y -> y.spoil(0, 0), Made::nothing);
        Check.same("the first", x.put(5), 1);
    }

    static void notScanned() {
        Twin.state("use(0)", x -> x.use(0), Made::nothing);
        Twin.state("head(0, 0)", x -> x.head(0, 0), Made::nothing);
        Twin.state("found(-1, 0)", x -> x.found(-1, 0), Made::nothing);
        Check.same("place()", new Counted().place(), -1);
    }

    static void twoObjectsShareNothing() {
        Counted one = new Counted();
        Made.rich(one);
        Made.scanned(one);
        Counted other = new Counted();
        for (int what = 0; what <= 14; what++) {
            Check.same("get(" + what + ")", other.get(what, 0, 0), what == 10 ? 1 : 0);
        }
        Check.same("at(-1)", other.at(-1), 0);
        Check.refuses("found", IllegalStateException.class, () -> other.found(-1, 0));
        Made.small(other);
        Check.same("of the one", one.get(8, 0, 0), 2);
    }

    /** Each call that names two exceptions, where both would be due. */
    static void theFirstNamedIsThrown() {
        Twin.state("tiles", x -> x.tiles(-1, 0, 0, 0), Made::nothing);
        Twin.argument("component", x -> x.component(0, true, 1, 1), Made::great);
        Twin.none("coding", x -> x.coding(2, 33, 1, 1, 64, true), Made::rich);
        Twin.none("precincts", x -> x.precincts(2, 33, 16, 16), Made::rich);
        Twin.none("steps", x -> x.steps(2, 3, 8, 38), Made::rich);
        Twin.none("step", x -> x.step(2, 97, 65536), Made::rich);
        Twin.argument("change", x -> x.change(0, 0, 0, 1, 1, 0), Made::great);
        Twin.argument("put", x -> x.put(256), Made::full);
        Twin.state("write", Counted::write, x -> {
            Made.full(x);
            x.plan();
        });
        Twin.argument("part", x -> x.part(65536, 0, 0, 0), Made::full);
        Twin.argument("mark", x -> x.mark(256), Made::full);
        Twin.state("use", x -> x.use(-1), Made::rich);
        Twin.state("head", x -> x.head(-1, -1), Made::rich);
        Twin.state("found", x -> x.found(-2, 5), Made::rich);
    }

    /** "An object is used for at most 512 calls": the last of them is answered as the first. */
    static void fiveHundredAndTwelveCalls() {
        Counted x = new Counted();
        for (int n = 1; n <= 510; n++) {
            Check.same("put", x.put(n & 255), n);
        }
        Check.same("at", x.at(509), 510 & 255);
        Check.same("the 512th call", x.scan(), 2);
    }
}
