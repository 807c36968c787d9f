/** Promise 20, scan(), number 6: 82 and 92 at the first PART; all parts at END. */
public final class Promise20MissingTest {
    public static void main(String[] args) throws ReflectiveOperationException {
        Check.runAll(Promise20MissingTest.class);
    }

    private static Bytes main1() {
        return new Bytes().main(1, 1);
    }

    static void codingAtTheFirstPart() {
        new Bytes().start(1, 1).steps().barePart(0, 0, 0).end().refused("no 82", 6, 51);
        new Bytes().start(1, 1).steps().segment(83, 0, 0, 0, 4, 4, 0, 1).barePart(0, 0, 0).end()
                .refused("83 alone", 6, 62);
        new Bytes().start(1, 1).steps().coding().barePart(0, 0, 0).end().accepted("82");
    }

    static void stepsAtTheFirstPart() {
        new Bytes().start(1, 1).coding().barePart(0, 0, 0).end().refused("no 92", 6, 59);
        new Bytes().start(1, 1).coding().segment(93, 0, 64, 0).barePart(0, 0, 0).end()
                .refused("93 alone", 6, 66);
        new Bytes().start(1, 1).coding().steps().barePart(0, 0, 0).end().accepted("92");
    }

    static void bothAtTheFirstPart() {
        new Bytes().start(1, 1).barePart(0, 0, 0).end().refused("none", 6, 45);
        Bytes own = new Bytes().coding().steps();
        new Bytes().start(1, 1).part(0, 14 + own.size(), 0, 0).add(own).mark(147).end()
                .refused("in the tile alone", 6, 45);
    }

    /** Those of an earlier scan are not there. */
    static void notThoseOfAnEarlierStream() {
        Counted x = Made.with(Made::scanned);
        new Bytes().start(2, 2).barePart(0, 0, 0).barePart(1, 0, 0).end().feed(x);
        Check.same("scan", x.scan(), 6);
        Check.same("place", x.place(), 48);
    }

    static void noPartAtAll() {
        main1().end().refused("82 and 92", 6, 65);
        new Bytes().start(1, 1).end().refused("nothing", 6, 45);
        new Bytes().start(1, 1).coding().end().refused("82", 6, 59);
        new Bytes().start(1, 1).steps().end().refused("92", 6, 51);
    }

    static void aPartOfEachTile() {
        for (int missing = 0; missing <= 3; missing++) {
            Bytes x = new Bytes().main(3, 1);
            for (int t = 0; t < 3; t++) {
                if (t != missing) {
                    x.barePart(t, 0, 0);
                }
            }
            x.end().refused("without tile " + missing, missing == 3 ? 0 : 6,
                    missing == 3 ? -1 : 65 + 28);
        }
    }

    /** With SPAN 0 the bytes go up to the last two: what looks like a part there is none. */
    static void aPartThatIsBytesOfAnother() {
        new Bytes().main(2, 1).part(0, 0, 0, 0).mark(147).barePart(1, 0, 0).end()
                .refused("span 0", 6, 65 + 28);
        new Bytes().main(2, 1).part(0, 28, 0, 0).mark(147).barePart(1, 0, 0).end()
                .refused("span over both", 6, 65 + 28);
        new Bytes().main(2, 1).part(0, 14, 0, 0).mark(147).barePart(1, 0, 0).end()
                .accepted("span 14");
    }

    static void aPartOfEachOf64Tiles() {
        for (int missing = 62; missing <= 64; missing++) {
            Bytes x = new Bytes().main(64, 1);
            for (int t = 0; t < 64; t++) {
                if (t != missing) {
                    x.barePart(t, 0, 0);
                }
            }
            x.end().refused("without tile " + missing, missing == 64 ? 0 : 6,
                    missing == 64 ? -1 : 65 + 63 * 14);
        }
    }

    /** "and as many as its parts say": no fewer. */
    static void fewerPartsThanTheySay() {
        main1().barePart(0, 0, 1).end().accepted("1 of 1");
        main1().barePart(0, 0, 2).end().refused("1 of 2", 6, 79);
        main1().barePart(0, 0, 255).end().refused("1 of 255", 6, 79);
        main1().barePart(0, 0, 2).barePart(0, 1, 2).end().accepted("2 of 2");
        main1().barePart(0, 0, 0).barePart(0, 1, 3).end().refused("2 of 3", 6, 93);
        main1().barePart(0, 0, 3).barePart(0, 1, 0).end().refused("2 of 3, told first", 6, 93);
        new Bytes().main(2, 1).barePart(0, 0, 2).barePart(1, 0, 1).end()
                .refused("of the first tile", 6, 93);
        new Bytes().main(2, 1).barePart(0, 0, 1).barePart(1, 0, 2).end()
                .refused("of the second tile", 6, 93);
    }

    /** And no more, which the later parts can only be by telling 0. */
    static void morePartsThanTheySay() {
        main1().barePart(0, 0, 1).barePart(0, 1, 0).end().refused("2 of 1", 6, 93);
        main1().barePart(0, 0, 2).barePart(0, 1, 2).barePart(0, 2, 0).end()
                .refused("3 of 2", 6, 107);
    }

    static void partsThatSayNothing() {
        main1().barePart(0, 0, 0).end().accepted("1");
        main1().barePart(0, 0, 0).barePart(0, 1, 0).barePart(0, 2, 0).end().accepted("3");
    }

    /** 255 is the most that they can say. */
    static void twoHundredAndFiftyFiveParts() {
        for (int count = 254; count <= 256; count++) {
            Bytes x = main1();
            for (int n = 0; n < count; n++) {
                x.barePart(0, n, n == 255 ? 0 : 255);
            }
            x.end().refused(count + " of 255", count == 255 ? 0 : 6,
                    count == 255 ? -1 : 65 + count * 14);
        }
    }

    /** What was counted by a scan that was refused is not counted again. */
    static void notThePartsOfAnEarlierScan() {
        Counted x = main1().barePart(0, 0, 2).end().feed(new Counted());
        Check.same("1 of 2", x.scan(), 6);
        Check.same("again", x.scan(), 6);
        x.spoil(65 + 11, 1);
        Check.same("1 of 1", x.scan(), 0);
        Check.same("found", x.found(-1, 0), 1);
    }
}
