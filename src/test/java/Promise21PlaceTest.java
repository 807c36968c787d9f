/** Promise 21, place(): where the latest scan refused, whatever came since. */
public final class Promise21PlaceTest {
    public static void main(String[] args) throws ReflectiveOperationException {
        Check.runAll(Promise21PlaceTest.class);
    }

    private static Bytes main1() {
        return new Bytes().main(1, 1);
    }

    static void noScan() {
        Counted x = new Counted();
        Check.same("new", x.place(), -1);
        x.mark(79);
        x.put(9);
        Check.same("bytes", x.place(), -1);
        x.clear();
        Check.same("cleared", x.place(), -1);
    }

    static void aScanThatDidNotRefuse() {
        Counted x = Made.with(Made::scanned);
        Check.same("taken", x.place(), -1);
        x.spoil(0, 0);
        Check.same("spoiled", x.place(), -1);
        x.clear();
        Check.same("cleared", x.place(), -1);
    }

    /** The place of the byte 255 of the mark, at the beginning and later. */
    static void thePlaceOfTheByte255() {
        new Bytes().mark(81).u2(2).refused("at 0", 2, 0);
        new Bytes().mark(79).mark(79).refused("at 2", 2, 2);
        main1().mark(97).u2(2).refused("among main", 2, 65);
        main1().part(0, 18, 0, 0).mark(96).u2(2).mark(147).end().refused("in a part", 2, 77);
        main1().barePart(0, 0, 0).mark(79).refused("behind a part", 2, 79);
        main1().barePart(0, 0, 2).end().refused("END", 6, 79);
    }

    /** "of a mark that isn't there the place behind what was there" */
    static void ofAMarkThatIsNotThere() {
        new Bytes().refused("empty", 1, 0);
        new Bytes().mark(79).refused("behind START", 1, 2);
        main1().refused("behind the main segments", 1, 65);
        main1().part(0, 18, 0, 0).segment(100).mark(147).u1(1, 2).end()
                .refused("behind a segment and its part", 2, 83);
        main1().part(0, 16, 0, 0).segment(100).mark(147).end()
                .refused("DATA, behind the end of its part", 1, 81);
        main1().barePart(0, 0, 0).refused("END", 1, 79);
        main1().u1(7, 7).refused("no byte 255", 2, 65);
    }

    static void theLastPlaceOfAFullStream() {
        Counted x = new Counted();
        Made.great(x);
        x.write();
        x.part(0, 0, 0, Made.MOST_BYTES - Made.GREAT_BYTES - 14 - 1);
        while (x.at(-1) + Made.GREAT_BYTES <= Made.MOST_BYTES) {
            x.write();
        }
        while (x.at(-1) + 14 <= Made.MOST_BYTES) {
            x.part(0, 0, 0, 0);
        }
        while (x.at(-1) < Made.MOST_BYTES) {
            x.put(0);
        }
        Check.same("one byte", x.scan(), 1);
        Check.same("place", x.place(), Made.MOST_BYTES - 1);
        x.spoil(Made.GREAT_BYTES + 9, x.at(Made.GREAT_BYTES + 9) + 1);
        Check.same("no byte", x.scan(), 1);
        Check.same("place", x.place(), Made.MOST_BYTES);
    }

    /** "whatever came since": each other call, that throws or not. */
    static void whateverCameSince() {
        Use[] calls = {Counted::plan, x -> x.picture(0, 0, 1, 1), x -> x.tiles(0, 0, 9, 9),
            x -> x.component(1, false, 1, 1), x -> x.general(0, 1, false, false, false),
            x -> x.coding(0, 0, 6, 6, 0, true), x -> x.precincts(0, 0, 1, 1),
            x -> x.steps(0, 0, 0, 0), x -> x.step(0, 0, 0), x -> x.change(0, 0, 1, 1, 1, 0),
            x -> x.get(0, 0, 0), Counted::clear, x -> x.put(0), x -> x.at(-1),
            Counted::write, x -> x.part(0, 0, 0, 0), x -> x.mark(0), x -> x.spoil(0, 0),
            Counted::place, x -> x.use(0), x -> x.head(0, 0), x -> x.found(-1, 0),
            x -> x.put(256), x -> x.picture(0, 0, 0, 0), x -> x.get(99, 0, 0),
            x -> x.spoil(99, 0), x -> x.part(-1, 0, 0, 0)};
        for (int i = 0; i < calls.length; i++) {
            Counted refused = Made.with(Made::rich);
            Counted taken = Made.with(Made::scanned);
            int call = i;
            Check.nameOfThrown(() -> calls[call].on(refused));
            Check.nameOfThrown(() -> calls[call].on(taken));
            Check.same("refused, then call " + i, refused.place(), 2);
            Check.same("taken, then call " + i, taken.place(), -1);
        }
    }

    /** Only another scan tells another place. */
    static void theLatestScan() {
        Counted x = Made.with(Made::rich);
        Check.same("refused", x.place(), 2);
        x.clear();
        Check.same("cleared", x.place(), 2);
        Check.same("scan", x.scan(), 1);
        Check.same("refused again", x.place(), 0);
        main1().barePart(0, 0, 0).end().feed(x);
        Check.same("not scanned yet", x.place(), 0);
        Check.same("scan", x.scan(), 0);
        Check.same("taken", x.place(), -1);
        // Then it is no PART, but some other segment, and DATA stands behind it.
        x.spoil(66, 143);
        Check.same("not scanned yet", x.place(), -1);
        Check.same("scan", x.scan(), 2);
        Check.same("refused", x.place(), 77);
    }
}
