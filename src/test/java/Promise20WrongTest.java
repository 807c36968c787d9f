/** Promise 20, scan(), number 2: no byte 255, a mark that may not stand there, 96 and 97. */
public final class Promise20WrongTest {
    private static final int[] OF_TILES_TOO = {82, 83, 92, 93, 94, 95};

    public static void main(String[] args) throws ReflectiveOperationException {
        Check.runAll(Promise20WrongTest.class);
    }

    private static Bytes main1() {
        return new Bytes().main(1, 1);
    }

    private static boolean isBare(int m) {
        return m >= 48 && m <= 63 || m == 79 || m == 146 || m == 147 || m == 217;
    }

    private static boolean isOneOf(int m, int... marks) {
        for (int one : marks) {
            if (one == m) {
                return true;
            }
        }
        return false;
    }

    private static Bytes anything(int m) {
        return isBare(m) ? new Bytes().mark(m) : new Bytes().segment(m);
    }

    static void noByte255() {
        int[] bytes = {0, 254, 127};
        for (int b : bytes) {
            new Bytes().u1(b, 79).refused("first", 2, 0);
            new Bytes().mark(79).u1(b, 81).u2(41).refused("second", 2, 2);
            main1().u1(b, 100, 0, 2).refused("among main", 2, 65);
            main1().part(0, 14, 0, 0).u1(b, 147).end().refused("in a part", 2, 77);
            main1().barePart(0, 0, 0).u1(b, 217).refused("behind a part", 2, 79);
        }
    }

    static void onlyStartIsFirst() {
        for (int m = 0; m < 256; m++) {
            if (m != 79) {
                anything(m).refused("mark " + m, 2, 0);
            }
        }
        new Bytes().mark(79).refused("START", 1, 2);
    }

    static void onlySizeIsSecond() {
        for (int m = 0; m < 256; m++) {
            if (m != 81) {
                new Bytes().mark(79).add(anything(m)).refused("mark " + m, 2, 2);
            }
        }
        new Bytes().start(1, 1).refused("SIZE", 1, 45);
    }

    /** 79, 81, 146, 147 nowhere but as told; 88 and 97 in parts alone. */
    static void amongTheMainSegments() {
        for (int m = 0; m < 256; m++) {
            if (isOneOf(m, 79, 81, 88, 97, 146, 147)) {
                main1().add(anything(m)).barePart(0, 0, 0).end().refused("mark " + m, 2, 65);
            } else if (!isOneOf(m, 82, 83, 92, 93, 94, 95, 96, 144, 217)) {
                main1().add(anything(m)).barePart(0, 0, 0).end().accepted("mark " + m);
            }
        }
        main1().segment(96, 0).barePart(0, 0, 0).end().accepted("mark 96");
        main1().segment(95).barePart(0, 0, 0).end().accepted("mark 95");
        main1().segment(94, 0, 0, 1).barePart(0, 0, 0).end().accepted("mark 94");
    }

    /** 85, 87, 96, 99 among the main segments alone. */
    static void inAFirstPart() {
        for (int m = 0; m < 256; m++) {
            Bytes one = anything(m);
            Bytes x = main1().part(0, 14 + one.size(), 0, 0).add(one).mark(147).end();
            if (isOneOf(m, 79, 81, 85, 87, 96, 99, 144, 146, 217)) {
                x.refused("mark " + m, 2, 77);
            } else if (!isOneOf(m, OF_TILES_TOO) && !isOneOf(m, 97, 147)) {
                x.accepted("mark " + m);
            }
        }
        Bytes all = new Bytes().coding().steps().segment(83, 0, 0, 0, 4, 4, 0, 1)
                .segment(93, 0, 64, 0).segment(94, 0, 0, 1).segment(95).segment(97, 0);
        main1().part(0, 14 + all.size(), 0, 0).add(all).mark(147).end().accepted("all of them");
    }

    /** As in the first one, but for 82, 83, 92, 93, 94, 95. */
    static void inALaterPart() {
        for (int m = 0; m < 256; m++) {
            Bytes one = anything(m);
            Bytes x = main1().barePart(0, 0, 0).part(0, 14 + one.size(), 1, 0).add(one).mark(147)
                    .end();
            boolean wrong = isOneOf(m, 79, 81, 85, 87, 96, 99, 144, 146, 217);
            if (wrong || isOneOf(m, OF_TILES_TOO)) {
                x.refused("mark " + m, 2, 91);
            } else if (!isOneOf(m, 97, 147)) {
                x.accepted("mark " + m);
            }
        }
        main1().barePart(0, 0, 0).part(0, 19, 1, 0).segment(97, 0).mark(147).end()
                .accepted("mark 97");
    }

    /** A tile's first part, not the stream's; and no first part again behind another tile's. */
    static void theFirstPartOfEachTile() {
        Bytes own = new Bytes().coding().steps().segment(94, 0, 0, 1).segment(95);
        int span = 14 + own.size();
        new Bytes().main(2, 1).barePart(0, 0, 0).part(1, span, 0, 0).add(own).mark(147).end()
                .accepted("of tile 1");
        new Bytes().main(2, 1).barePart(0, 0, 0).barePart(1, 0, 0).part(0, span, 1, 0).add(own)
                .mark(147).end().refused("tile 0 again", 2, 65 + 14 + 14 + 12);
    }

    static void behindAPart() {
        for (int m = 0; m < 256; m++) {
            if (m != 144 && m != 217) {
                main1().barePart(0, 0, 0).add(anything(m)).end().refused("mark " + m, 2, 79);
            }
        }
        main1().barePart(0, 0, 0).barePart(0, 1, 0).end().accepted("PART");
        main1().barePart(0, 0, 0).end().accepted("END");
    }

    static void bytesOfDataAreNotLookedAt() {
        main1().part(0, 20, 0, 0).mark(147).mark(217).mark(79).u1(0, 1).end().accepted("marks");
        main1().part(0, 0, 0, 0).mark(147).mark(217).mark(144).u1(0).end().accepted("span 0");
    }

    static void heads96And97() {
        Bytes tile = new Bytes().part(0, 19, 0, 0).segment(97, 0).mark(147).end();
        main1().add(tile).accepted("97 alone");
        main1().segment(96, 0).barePart(0, 0, 0).end().accepted("96 alone");
        main1().segment(96, 0).add(tile).refused("both", 2, 70 + 12);
        new Bytes().main(2, 1).segment(96, 0).barePart(0, 0, 0).part(1, 19, 0, 0).segment(97, 0)
                .mark(147).end().refused("97 in a later part", 2, 70 + 14 + 12);
        main1().segment(96, 0).segment(96, 1).segment(96, 2).add(tile)
                .refused("behind three", 2, 80 + 12);
    }

    static void behindARefusedScanThePlanAndBytesStay() {
        Use state = x -> {
            Made.rich(x);
            x.clear();
            x.mark(79);
            x.mark(217);
        };
        Twin.planAndBytesStay("scan", x -> Check.same("scan", x.scan(), 2), state);
        Counted x = Made.with(Made::scanned);
        x.spoil(2, 254);
        Check.same("a stream that was taken before", x.scan(), 2);
        Check.same("place", x.place(), 2);
        Check.same("the plan stays", x.get(10, 0, 0), 44);
        Check.refuses("use", IllegalStateException.class, () -> x.use(0));
    }
}
