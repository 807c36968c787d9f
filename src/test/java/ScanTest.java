import java.util.NoSuchElementException;

/** Promises 20 and 21: the scan, its numbers, and the place. */
public final class ScanTest {
    private static final Class<IllegalStateException> STATE = IllegalStateException.class;

    /** The place behind START, SIZE (one component), CODING and STEPS. */
    private static final int BEHIND_MAIN = 65;

    public static void main(String[] args) {
        plain();
        planAndState();
        cutAnywhere();
        cutBeforeWrong();
        cutInPart();
        span();
        wrongAtFirst();
        wrongAmongMain();
        wrongInPart();
        others();
        lengths();
        lengthsOfSteps();
        sizeValues();
        great();
        codingValues();
        componentValues();
        changesValues();
        headsValues();
        partValues();
        twice();
        missing();
        firstNumberFirst();
        place();
        Check.end("ScanTest");
    }

    private static Bytes main1() {
        return new Bytes().main(1, 1);
    }

    /** Main segments, one of them more, a part, END: the one more is refused so (0: not). */
    private static void inMain(String what, int number, int m, int... bytes) {
        Bytes x = new Bytes().main(1, 2).segment(m, bytes).barePart(0, 0, 0).end();
        x.refused(what + " in main", number, number == 0 ? -1 : BEHIND_MAIN + 3);
    }

    /** The same in the first part of a tile. */
    private static void inFirst(String what, int number, int m, int... bytes) {
        Bytes x = new Bytes().main(1, 2).part(0, 14 + 4 + bytes.length, 0, 0).segment(m, bytes)
                .mark(147).end();
        x.refused(what + " in a part", number, number == 0 ? -1 : BEHIND_MAIN + 3 + 12);
    }

    private static void inBoth(String what, int number, int m, int... bytes) {
        inMain(what, number, m, bytes);
        inFirst(what, number, m, bytes);
    }

    private static void plain() {
        main1().barePart(0, 0, 1).end().accepted("plain");
        main1().barePart(0, 0, 1).end().u1(1, 2, 255).accepted("what is behind END");
        new Bytes().start(1, 1).steps().coding().barePart(0, 0, 0).end().accepted("other order");
        main1().part(0, 17, 0, 1).mark(147).u1(255, 217, 0).end().accepted("bytes like END");
        main1().part(0, 0, 0, 1).mark(147).u1(255, 217, 0).end().accepted("span 0, like END");
        main1().part(0, 0, 0, 1).mark(147).end().accepted("span 0, no bytes");
        new Bytes().main(2, 1).barePart(1, 0, 2).barePart(0, 0, 1).barePart(1, 1, 0).end()
                .accepted("tiles in any order");
    }

    private static void planAndState() {
        Counted x = main1().barePart(0, 0, 1).feed(new Counted());
        x.picture(0, 0, 9, 9);
        x.general(3, 3, true, true, true);
        Check.same("20 refused", x.scan(), 1);
        Check.same("20 plan stays", x.get(2, 0, 0), 9);
        Check.same("20 order stays", x.get(9, 0, 0), 3);
        Check.same("20 no component", x.get(8, 0, 0), 0);
        Check.refuses("20 not scanned", STATE, () -> x.found(-1, 0));
        x.mark(217);
        x.change(0, 0, 1, 1, 1, 1);
        Check.same("20 scan", x.scan(), 0);
        int[] due = {0, 0, 4, 4, 0, 0, 4, 4, 1, 0, 1, 0, 0, 0, 0};
        for (int what = 0; what < due.length; what++) {
            Check.same("20 get(" + what + ")", x.get(what, 0, 0), due[what]);
        }
        Check.same("20 scan again", x.scan(), 0);
        Check.same("20 found", x.found(-1, 0), 1);

        Counted y = new Bytes().mark(79).mark(81).u2(44).u2(65535)
                .u4(0x7fffffff).u4(20).u4(9).u4(8).u4(0x7ffffffe).u4(8).u4(7).u4(6).u2(2)
                .u1(7, 1, 255).u1(165, 255, 1)
                .segment(83, 1, 1, 1, 8, 0, 63, 0, 0, 239)
                .segment(82, 6, 4, 0, 255, 1, 2, 0, 8, 5, 0)
                .segment(93, 0, 225, 255, 1)
                .segment(92, 34, 0, 1, 0, 2, 0, 3, 0, 4)
                .segment(94, 1, 0, 37)
                .segment(95, 1, 255, 255, 255, 33, 0, 4)
                .barePart(0, 0, 1).barePart(1, 0, 1).end().feed(new Counted());
        Check.same("20 rich", y.scan(), 0);
        int[] all = {9, 8, 0x7fffffff, 20, 7, 6, 0x7ffffffe, 8, 2, 4, 255, 1, 1, 1, 1};
        for (int what = 0; what < all.length; what++) {
            Check.same("20 rich get(" + what + ")", y.get(what, 0, 0), all[what]);
        }
        int[][] of = {{8, 0, 1, 255, 2, 2, 10, 5, 0, 1, 7, 0}, {38, 1, 255, 1, 1, 10, 2, 63, 0,
            2, 1, 37}};
        for (int c = 0; c < 2; c++) {
            for (int i = 0; i < 12; i++) {
                Check.same("20 of " + c + " get(" + (20 + i) + ")", y.get(20 + i, c, 0), of[c][i]);
            }
        }
        int[] exponents = {0, 15, 15, 0, 14, 15};
        for (int r = 0; r < 3; r++) {
            Check.same("20 pw of 0", y.get(32, 0, r), 15);
            Check.same("20 pw of 1", y.get(32, 1, r), exponents[r]);
            Check.same("20 ph of 1", y.get(33, 1, r), exponents[3 + r]);
        }
        Check.same("20 value of kind 1", y.get(34, 0, 0), 65281);
        Check.same("20 not told", y.get(34, 0, 1), 0);
        Check.same("20 value of kind 2", y.get(34, 1, 3), 4);
        Check.same("20 not told either", y.get(34, 1, 4), 0);
        int[] change = {1, 255, 65535, 33, 256, 4};
        for (int i = 0; i < 6; i++) {
            Check.same("20 change", y.get(40 + i, 0, 0), change[i]);
        }
        Counted z = main1().cutTo(59).segment(92, 64, 255).barePart(0, 0, 1).end()
                .feed(new Counted());
        Check.same("20 kind 0", z.scan(), 0);
        Check.same("20 value of kind 0", z.get(34, 0, 0), 65280);

        Counted w = new Bytes().start(1, 1).set(42, 128).steps()
                .segment(82, 1, 0, 0, 1, 0, 0, 4, 4, 0, 1, 18)
                .segment(95, 1, 2, 3, 4, 5, 6, 1, 7, 8, 9, 10, 11, 12, 2)
                .barePart(0, 0, 1).end().feed(new Counted());
        Check.same("20 told", w.scan(), 0);
        Check.same("20 one bit", w.get(20, 0, 0), 1);
        Check.same("20 signed", w.get(21, 0, 0), 1);
        Check.same("20 not ahead", w.get(12, 0, 0), 0);
        Check.same("20 not behind", w.get(13, 0, 0), 0);
        Check.same("20 told pw", w.get(32, 0, 0), 2);
        Check.same("20 told ph", w.get(33, 0, 0), 1);
        int[] both = {1, 2, 772, 5, 6, 1, 7, 8, 2314, 11, 12, 2};
        for (int i = 0; i < both.length; i++) {
            Check.same("20 changes", w.get(40 + i % 6, i / 6, 0), both[i]);
        }
    }

    /** Wherever the stream ends, the mark that lacks bytes is refused by 1. */
    private static void cutAnywhere() {
        int[] places = {0, 2, 45, 59, 65, 79};
        int whole = main1().barePart(0, 0, 1).end().size();
        for (int size = 0; size < whole; size++) {
            int due = 0;
            for (int place : places) {
                due = place <= size ? place : due;
            }
            // The part is refused as a whole: its span goes beyond the end.
            due = size >= 65 && size < 79 ? 65 : due;
            main1().barePart(0, 0, 1).end().cutTo(size).refused("cut to " + size, 1, due);
        }
    }

    private static void cutBeforeWrong() {
        new Bytes().u1(7).refused("one byte that is not 255", 1, 0);
        new Bytes().u1(7, 7).refused("two bytes, not 255", 2, 0);
        new Bytes().u1(7, 81, 0).refused("no mark, so no length", 2, 0);
        new Bytes().u1(255, 81, 0).refused("a wrong mark with its length cut", 1, 0);
        new Bytes().u1(255, 81, 0, 3).refused("a wrong mark with its segment cut", 1, 0);
        new Bytes().u1(255, 81, 0, 3, 0).refused("a wrong mark", 2, 0);
        new Bytes().u1(255, 81, 0, 0).refused("a wrong mark with a wrong length", 2, 0);
        new Bytes().mark(79).mark(217).refused("no SIZE", 2, 2);
        main1().u1(255).refused("half a mark", 1, BEHIND_MAIN);
        main1().u1(255, 97, 0).refused("97 with its length cut", 1, BEHIND_MAIN);
        main1().u1(255, 97, 0, 9, 1).refused("97 with its bytes cut", 1, BEHIND_MAIN);
        main1().barePart(0, 0, 0).u1(255, 100, 0).refused("behind a part, cut", 1, 79);
        main1().barePart(0, 0, 0).u1(255, 100, 0, 2).refused("behind a part", 2, 79);
        main1().barePart(0, 0, 0).u1(255).refused("half of END", 1, 79);
        main1().barePart(0, 0, 0).refused("no END", 1, 79);
    }

    private static void cutInPart() {
        main1().part(0, 14, 0, 0).u1(255, 100, 0, 2, 255, 147).end()
                .refused("a segment that its part cuts", 1, 77);
        main1().part(0, 16, 0, 0).u1(255, 100, 0, 3, 255, 147).end()
                .refused("bytes that its part cuts", 1, 77);
        main1().part(0, 16, 0, 0).u1(255, 100, 0, 2, 255, 147).end()
                .refused("DATA behind its part", 1, 81);
        main1().part(0, 17, 0, 0).u1(255, 100, 0, 2, 255, 147).end()
                .refused("half of DATA in its part", 1, 81);
        main1().part(0, 0, 0, 0).end().refused("span 0 without DATA", 1, 77);
        main1().part(0, 0, 0, 0).u1(255).end().refused("span 0 with half of DATA", 1, 77);
        main1().part(0, 0, 0, 0).u1(255, 100, 0, 4).end().refused("span 0, END cuts", 1, 77);
        main1().part(0, 14, 0, 0).u1(7, 147).end().refused("no mark in a part", 2, 77);
    }

    private static void span() {
        main1().part(0, 15, 0, 0).mark(147).end().refused("END not where the part ends", 1, 80);
        main1().part(0, 16, 0, 0).mark(147).end().refused("part to the end", 1, 81);
        main1().part(0, 17, 0, 0).mark(147).end().refused("part beyond the end", 1, 65);
        main1().part(0, 0x80000000L, 0, 0).mark(147).end().refused("span 2^31", 1, 65);
        main1().part(0, 0xffffffffL, 0, 0).mark(147).end().refused("span 2^32 - 1", 1, 65);
        main1().part(0, 0, 0, 0).mark(147).end().u1(0).refused("span 0, more behind", 1, 65);
        main1().part(0, 0, 0, 0).mark(147).u1(217).refused("span 0, no END", 1, 65);
        main1().part(0, 0, 0, 0).refused("span 0, nothing behind", 1, 65);
        main1().part(0, 0, 0, 0).u1(217).refused("span 0, one byte behind", 1, 65);
        new Bytes().start(1, 1).coding().part(0, 99, 0, 0).mark(147).end()
                .refused("1 of a span before 6", 1, 59);
        new Bytes().start(1, 1).coding().part(0, 0, 0, 0).mark(147)
                .refused("1 of a span 0 before 6", 1, 59);
        new Bytes().start(1, 1).coding().part(1, 99, 0, 0).mark(147).end()
                .refused("5 before 1 of a span", 5, 59);
        int[] low = {1, 2, 12, 13};
        for (int span : low) {
            main1().part(0, span, 0, 0).mark(147).end().refused("span " + span, 5, 65);
        }
    }

    private static void wrongAtFirst() {
        for (int m = 0; m < 256; m++) {
            if (m != 79) {
                new Bytes().mark(m).u2(2).u1(0).refused("first mark " + m, 2, 0);
            }
            if (m != 81) {
                new Bytes().mark(79).mark(m).u2(2).u1(0).refused("second mark " + m, 2, 2);
            }
        }
    }

    private static boolean isBare(int m) {
        return m >= 48 && m <= 63 || m == 79 || m == 146 || m == 147 || m == 217;
    }

    private static void wrongAmongMain() {
        int[] wrong = {79, 81, 88, 97, 146, 147};
        for (int m : wrong) {
            Bytes x = main1().mark(m);
            (isBare(m) ? x : x.u2(2)).barePart(0, 0, 0).end()
                    .refused("among main " + m, 2, BEHIND_MAIN);
        }
        main1().u1(0, 0, 0, 0).refused("no mark among main", 2, BEHIND_MAIN);
        main1().barePart(0, 0, 0).segment(100).end().refused("100 behind a part", 2, 79);
        main1().barePart(0, 0, 0).mark(48).end().refused("48 behind a part", 2, 79);
        main1().barePart(0, 0, 0).u1(9).end().refused("a byte behind a part", 2, 79);
        main1().barePart(0, 0, 0).coding().end().refused("82 behind a part", 2, 79);
    }

    private static void wrongInPart() {
        int[] wrong = {79, 81, 85, 87, 96, 99, 144, 146, 217};
        for (int m : wrong) {
            Bytes x = main1().part(0, 0, 0, 0).mark(m);
            (isBare(m) ? x : x.u2(2)).mark(147).end().refused("in a part " + m, 2, 77);
        }
        int[] ofFirst = {82, 83, 92, 93, 94, 95};
        for (int m : ofFirst) {
            main1().barePart(0, 0, 0).part(0, 0, 1, 0).segment(m).mark(147).end()
                    .refused("in a second part " + m, 2, 91);
        }
        Bytes first = new Bytes().coding().steps();
        new Bytes().main(2, 1).barePart(0, 0, 0).part(1, 14 + first.size(), 0, 0).add(first)
                .mark(147).end().accepted("the first part of another tile");
        main1().segment(96, 0).part(0, 19, 0, 0).segment(97, 0).mark(147).end()
                .refused("97 behind 96", 2, 82);
        main1().segment(96, 0).part(0, 19, 0, 0).segment(97, 7).mark(147).end()
                .refused("97 behind 96 before its value", 2, 82);
        main1().segment(96, 0).part(0, 18, 0, 0).segment(97).mark(147).end()
                .refused("97 behind 96 before its length", 2, 82);
        main1().part(0, 14 + 10, 0, 0).segment(88).mark(48).segment(100).mark(147).end()
                .accepted("88, 48 and 100 in a part");
    }

    /** Every mark that the document doesn't name may stand in both, with any bytes. */
    private static void others() {
        int[] named = {81, 82, 83, 92, 93, 94, 95, 85, 87, 88, 96, 97, 99, 144};
        for (int m = 0; m < 256; m++) {
            boolean other = !isBare(m);
            for (int n : named) {
                other = other && m != n;
            }
            if (other) {
                inBoth("other " + m, 0, m);
                inBoth("other " + m, 0, m, 255, 217, 255);
                main1().mark(m).u2(1).barePart(0, 0, 0).end().refused("other short", 3, 65);
                main1().mark(m).u2(0).barePart(0, 0, 0).end().refused("other short", 3, 65);
            }
            if (m >= 48 && m <= 63) {
                main1().mark(m).part(0, 16, 0, 0).mark(m).mark(147).end().accepted("bare " + m);
            }
        }
        inMain("85", 0, 85, 1, 2);
        inMain("87", 0, 87);
        inMain("99", 0, 99, 1);
        inFirst("88", 0, 88, 1);
        main1().mark(85).u2(1).barePart(0, 0, 0).end().refused("85 short", 3, 65);
    }

    private static void lengths() {
        for (int length = 0; length < 48; length++) {
            if (length != 41) {
                main1().set(5, length).barePart(0, 0, 0).end().refused("SIZE " + length, 3, 2);
            }
            if (length != 12) {
                main1().set(48, length).barePart(0, 0, 0).end().u4(0).u4(0).u4(0).u4(0)
                        .refused("CODING " + length, 3, 45);
            }
        }
        main1().set(41, 2).u2(0).refused("SIZE of two components", 3, 2);
        inBoth("CODING told", 3, 82, 1, 0, 0, 1, 0, 2, 4, 4, 0, 1, 255, 255);
        inBoth("CODING told", 3, 82, 1, 0, 0, 1, 0, 2, 4, 4, 0, 1, 255, 255, 255, 255);
        inBoth("CODING not told", 3, 82, 0, 0, 0, 1, 0, 0, 4, 4, 0, 1, 255);
        inBoth("CODING told, wrong values", 3, 82, 255, 9, 0, 0, 9, 33, 9, 9, 99, 9);
        inBoth("ITS CODING short", 3, 83, 0, 0, 0, 4, 4, 0);
        inBoth("ITS CODING long", 3, 83, 0, 0, 0, 4, 4, 0, 1, 255);
        inBoth("ITS CODING told", 3, 83, 0, 1, 1, 4, 4, 0, 1, 255);
        inBoth("ITS CODING told", 0, 83, 0, 1, 1, 4, 4, 0, 1, 255, 255);
        inBoth("ITS CODING empty", 3, 83);
        inBoth("SHIFT short", 3, 94, 0, 0);
        inBoth("SHIFT long", 3, 94, 0, 0, 0, 0);
        inBoth("CHANGES none", 0, 95);
        inBoth("CHANGES 6 bytes", 3, 95, 0, 0, 0, 1, 1, 1);
        inBoth("CHANGES 8 bytes", 3, 95, 0, 0, 0, 1, 1, 1, 0, 0);
        inMain("HEADS of all, no number", 3, 96);
        inFirst("HEADS of a tile, no number", 3, 97);
        for (int length = 0; length < 16; length++) {
            if (length != 10) {
                main1().barePart(0, 0, 0).set(68, length).end().u4(0)
                        .refused("PART " + length, 3, 65);
            }
        }
    }

    private static int[] stepsOf(int first, int second, int bytes) {
        int[] row = new int[(first < 0 ? 1 : 2) + bytes];
        row[0] = first < 0 ? second : first;
        if (first >= 0) {
            row[1] = second;
        }
        return row;
    }

    private static void lengthsOfSteps() {
        for (int bytes = 0; bytes <= 200; bytes++) {
            boolean few = bytes % 3 == 1 && bytes <= 97;
            boolean pairs = bytes % 2 == 0 && bytes / 2 % 3 == 1 && bytes / 2 <= 97;
            inFirst("kind 0 of " + bytes, few ? 0 : 3, 92, stepsOf(-1, 224, bytes));
            inFirst("kind 1 of " + bytes, bytes == 2 ? 0 : 3, 92, stepsOf(-1, 1, bytes));
            inFirst("kind 2 of " + bytes, pairs ? 0 : 3, 92, stepsOf(-1, 34, bytes));
            inFirst("kind 3 of " + bytes, 5, 92, stepsOf(-1, 3, bytes));
            inBoth("its kind 0 of " + bytes, few ? 0 : 3, 93, stepsOf(1, 0, bytes));
            inBoth("its kind 1 of " + bytes, bytes == 2 ? 0 : 3, 93, stepsOf(1, 225, bytes));
            inBoth("its kind 2 of " + bytes, pairs ? 0 : 3, 93, stepsOf(1, 2, bytes));
            inBoth("its kind 31 of " + bytes, 5, 93, stepsOf(1, 31, bytes));
        }
        inFirst("no kind", 3, 92);
        inBoth("its, no component", 3, 93);
        inBoth("its, no kind", 3, 93, 0);
    }

    private static Bytes size(long x1, long y1, long x0, long y0, long... tiles) {
        Bytes x = new Bytes().mark(79).mark(81).u2(41).u2(513).u4(x1).u4(y1).u4(x0).u4(y0);
        return x.u4(tiles[0]).u4(tiles[1]).u4(tiles[2]).u4(tiles[3]).u2(1).u1(7, 1, 1).coding()
                .steps();
    }

    private static void sizeValues() {
        long most = 0x7fffffffL;
        size(4, 4, 3, 3, 1, 1, 3, 3).barePart(0, 0, 0).end().accepted("least");
        size(most, most, 0, 0, most, most, 0, 0).barePart(0, 0, 0).end().accepted("greatest");
        size(4, 4, 4, 0, 4, 4, 4, 0).refused("x0 is x1", 5, 2);
        size(4, 4, 0, 4, 4, 4, 0, 4).refused("y0 is y1", 5, 2);
        size(most + 1, 4, most, 0, most, 4, most, 0).refused("x1 2^31", 5, 2);
        size(4, most + 1, 0, most, 4, most, 0, most).refused("y1 2^31", 5, 2);
        size(0xffffffffL, 4, 0, 0, 4, 4, 0, 0).refused("x1 2^32 - 1", 5, 2);
        size(4, 4, 0, 0, 0, 4, 0, 0).refused("wide 0", 5, 2);
        size(4, 4, 0, 0, 4, 0, 0, 0).refused("high 0", 5, 2);
        size(4, 4, 0, 0, most + 1, 4, 0, 0).refused("wide 2^31", 5, 2);
        size(4, 4, 0, 0, 4, most + 1, 0, 0).refused("high 2^31", 5, 2);
        size(4, 4, 2, 2, 4, 4, 3, 2).refused("x above x0", 5, 2);
        size(4, 4, 2, 2, 4, 4, 2, 3).refused("y above y0", 5, 2);
        size(4, 4, 2, 2, 2, 4, 0, 0).refused("first tile left of it", 5, 2);
        size(4, 4, 2, 2, 4, 2, 0, 0).refused("first tile above it", 5, 2);
        size(4, 4, 2, 2, 3, 3, 0, 0).refused("first tile touches it", 1, 65);
        size(4, 4, 2, 2, 4, 4, 0xffffffffL, 0).refused("x 2^32 - 1", 5, 2);
        new Bytes().mark(79).mark(81).u2(38).u2(0).u4(4).u4(4).u4(0).u4(0).u4(4).u4(4).u4(0).u4(0)
                .u2(0).refused("no component", 5, 2);
        int[][] bad = {{38, 1, 1}, {127, 1, 1}, {166, 1, 1}, {255, 1, 1}, {7, 0, 1}, {7, 1, 0}};
        for (int[] c : bad) {
            main1().set(42, c[0]).set(43, c[1]).set(44, c[2]).refused("component", 5, 2);
            new Bytes().main(1, 2).set(45, c[0]).set(46, c[1]).set(47, c[2])
                    .refused("component 1", 5, 2);
        }
        int[][] good = {{0, 1, 1}, {37, 255, 255}, {128, 1, 1}, {165, 1, 1}};
        for (int[] c : good) {
            main1().set(42, c[0]).set(43, c[1]).set(44, c[2]).barePart(0, 0, 0).end()
                    .accepted("component");
        }
    }

    private static void great() {
        Bytes sixteen = new Bytes().main(1, 16).barePart(0, 0, 0).end();
        sixteen.accepted("16 components");
        new Bytes().main(1, 17).refused("17 components", 7, 2);
        new Bytes().main(1, 17).set(42, 255).refused("17 components, one wrong", 7, 2);
        new Bytes().main(1, 17).set(6 + 2, 255).refused("17 components, no picture", 7, 2);
        new Bytes().main(65, 1).refused("65 tiles", 7, 2);
        new Bytes().main(65, 1).set(42, 255).refused("65 tiles, a wrong component", 7, 2);
        size(4, 4, 0, 0, 1, 1, 0, 0).refused("16 tiles", 1, 65);
        size(8, 8, 0, 0, 1, 1, 0, 0).refused("64 tiles", 1, 65);
        size(8, 9, 0, 0, 1, 1, 0, 0).refused("72 tiles", 7, 2);
        size(9, 9, 1, 1, 2, 1, 0, 1).refused("40 tiles", 1, 65);
        size(0x7fffffff, 0x7fffffff, 0, 0, 1, 1, 0, 0).refused("very many tiles", 7, 2);
        size(65, 1, 0, 0, 1, 1, 1, 0).refused("no values, so not many tiles", 5, 2);
        Bytes tiles = new Bytes().main(64, 1);
        for (int t = 0; t < 64; t++) {
            tiles.barePart(63 - t, 0, 1);
        }
        tiles.end().accepted("64 tiles");
        inFirst("255 layers", 0, 82, 0, 0, 0, 255, 0, 0, 4, 4, 0, 1);
        inBoth("256 layers", 7, 82, 0, 0, 1, 0, 0, 0, 4, 4, 0, 1);
        inBoth("65535 layers, wrong values", 7, 82, 8, 9, 255, 255, 9, 0, 4, 4, 0, 1);
        int[] changes = new int[32 * 7];
        for (int i = 0; i < changes.length; i++) {
            changes[i] = i % 7 == 3 || i % 7 == 4 || i % 7 == 5 ? 1 : 0;
        }
        inBoth("32 changes", 0, 95, changes);
        inBoth("33 changes", 7, 95, new int[33 * 7]);
        Bytes parts = new Bytes().main(2, 1).barePart(1, 0, 1);
        for (int k = 0; k < 255; k++) {
            parts.barePart(0, k, k == 254 ? 255 : 0);
        }
        new Bytes().add(parts).end().accepted("256 parts");
        int place = parts.size();
        new Bytes().add(parts).barePart(0, 255, 0).end().refused("257 parts", 7, place);
        new Bytes().add(parts).barePart(9, 9, 9).end().refused("257 parts, wrong", 7, place);
        new Bytes().add(parts).part(0, 9999, 255, 0).refused("257 parts, span", 7, place);
    }

    private static void codingValues() {
        int[][] bad = {{8, 0, 0, 1, 0, 0, 4, 4, 0, 1}, {128, 0, 0, 1, 0, 0, 4, 4, 0, 1},
            {0, 5, 0, 1, 0, 0, 4, 4, 0, 1}, {0, 255, 0, 1, 0, 0, 4, 4, 0, 1},
            {0, 0, 0, 0, 0, 0, 4, 4, 0, 1}, {0, 0, 0, 0, 1, 0, 4, 4, 0, 1},
            {0, 0, 0, 1, 2, 0, 4, 4, 0, 1},
            {0, 0, 0, 1, 0, 33, 4, 4, 0, 1}, {0, 0, 0, 1, 0, 0, 9, 0, 0, 1},
            {0, 0, 0, 1, 0, 0, 0, 9, 0, 1}, {0, 0, 0, 1, 0, 0, 5, 4, 0, 1},
            {0, 0, 0, 1, 0, 0, 4, 4, 64, 1}, {0, 0, 0, 1, 0, 0, 4, 4, 0, 2},
            {0, 0, 0, 1, 0, 0, 255, 255, 0, 1}, {1, 0, 0, 1, 0, 0, 4, 4, 64, 1, 255},
            {1, 0, 0, 1, 0, 1, 4, 4, 0, 1, 255, 240}, {1, 0, 0, 1, 0, 1, 4, 4, 0, 1, 255, 15},
            {9, 0, 0, 1, 0, 0, 4, 4, 0, 1, 255}};
        for (int[] c : bad) {
            inBoth("CODING", 5, 82, c);
            int[] body = new int[c.length - 3];
            body[1] = c[0] & 1;
            System.arraycopy(c, 5, body, 2, c.length - 5);
            boolean inBody = c[0] < 8 && c[1] == 0 && c[3] != 0 && c[4] == 0;
            inBoth("ITS CODING", inBody ? 5 : 0, 83, body);
        }
        int[][] good = {{6, 4, 0, 1, 1, 32, 8, 0, 63, 0}, {0, 3, 0, 255, 0, 0, 0, 8, 0, 1},
            {7, 0, 0, 1, 0, 1, 4, 4, 0, 1, 0, 17}};
        for (int[] c : good) {
            inFirst("CODING", 0, 82, c);
        }
        int[] long33 = new int[10 + 34];
        System.arraycopy(new int[] {1, 0, 0, 1, 0, 33, 4, 4, 0, 1}, 0, long33, 0, 10);
        inBoth("33 levels told", 5, 82, long33);
        inBoth("ITS CODING flags 2", 5, 83, 0, 2, 0, 4, 4, 0, 1);
        inBoth("ITS CODING flags 3", 5, 83, 0, 3, 0, 4, 4, 0, 1, 255);
        inBoth("ITS CODING of 2", 5, 83, 2, 0, 0, 4, 4, 0, 1);
        inBoth("ITS CODING of 255", 5, 83, 255, 0, 0, 4, 4, 0, 1);
    }

    private static void componentValues() {
        inBoth("ITS STEPS of 1", 0, 93, 1, 0, 0);
        inBoth("ITS STEPS of 2", 5, 93, 2, 0, 0);
        inBoth("SHIFT of 1", 0, 94, 1, 0, 37);
        inBoth("SHIFT of 2", 5, 94, 2, 0, 37);
        inBoth("SHIFT of kind 1", 5, 94, 0, 1, 37);
        inBoth("SHIFT 38", 5, 94, 0, 0, 38);
        inBoth("SHIFT 255", 5, 94, 0, 0, 255);
    }

    private static void changesValues() {
        int[][] bad = {{0, 0, 0, 0, 1, 1, 0}, {0, 0, 0, 1, 0, 1, 0}, {5, 0, 0, 1, 5, 1, 0},
            {0, 0, 0, 1, 34, 1, 0}, {33, 0, 0, 1, 33, 1, 0}, {0, 1, 0, 1, 1, 1, 0},
            {0, 2, 0, 1, 1, 1, 0}, {0, 0, 0, 1, 1, 1, 5}, {255, 0, 0, 1, 0, 1, 0}};
        int[][] good = {{0, 0, 0, 1, 1, 1, 0}, {32, 255, 255, 255, 33, 0, 4},
            {0, 0, 1, 0, 33, 255, 3}, {0, 17, 0, 1, 1, 18, 0}};
        for (int[] g : good) {
            inBoth("CHANGES", 0, 95, g);
            for (int[] b : bad) {
                inBoth("CHANGES", 5, 95, b);
                int[] two = new int[14];
                System.arraycopy(g, 0, two, 0, 7);
                System.arraycopy(b, 0, two, 7, 7);
                inBoth("CHANGES, the second wrong", 5, 95, two);
            }
        }
    }

    private static void headsValues() {
        inMain("96 from 1 on", 5, 96, 1);
        inFirst("97 from 1 on", 5, 97, 1, 5);
        main1().segment(96, 0).segment(100, 1).segment(96, 1, 3).barePart(0, 0, 0).end()
                .accepted("96 in order");
        main1().segment(96, 0).segment(96, 0).refused("96 twice 0", 5, 70);
        main1().segment(96, 0).segment(96, 2).refused("96 without 1", 5, 70);
        main1().part(0, 19, 0, 0).segment(97, 0).mark(147).part(0, 24, 1, 0).segment(97, 1)
                .segment(97, 2).mark(147).end().accepted("97 in order over parts");
        main1().part(0, 19, 0, 0).segment(97, 0).mark(147).part(0, 19, 1, 0).segment(97, 0)
                .mark(147).end().refused("97 again from 0", 5, 96);
        new Bytes().main(2, 1).part(0, 19, 0, 0).segment(97, 0).mark(147).part(1, 19, 0, 0)
                .segment(97, 0).mark(147).end().accepted("97 of each tile from 0");
    }

    private static void partValues() {
        main1().barePart(1, 0, 0).end().refused("no such tile", 5, 65);
        main1().barePart(65535, 0, 0).end().refused("no such tile", 5, 65);
        main1().barePart(0, 1, 0).end().refused("part 1 first", 5, 65);
        main1().barePart(0, 0, 0).barePart(0, 0, 0).end().refused("part 0 again", 5, 79);
        main1().barePart(0, 0, 0).barePart(0, 2, 0).end().refused("no part 1", 5, 79);
        main1().barePart(0, 0, 0).barePart(0, 1, 1).end().refused("parts not above", 5, 79);
        main1().barePart(0, 0, 2).barePart(0, 1, 3).end().refused("parts unlike", 5, 79);
        main1().barePart(0, 0, 0).barePart(0, 1, 2).end().accepted("parts told late");
        main1().barePart(0, 0, 2).barePart(0, 1, 0).end().accepted("parts told early");
        main1().barePart(0, 0, 3).barePart(0, 1, 0).barePart(0, 2, 3).end()
                .accepted("parts not always told");
        main1().barePart(0, 0, 3).barePart(0, 1, 0).barePart(0, 2, 4).end()
                .refused("parts unlike later", 5, 93);
    }

    private static void twice() {
        int[][] bodies = {{82, 0, 0, 0, 1, 0, 0, 4, 4, 0, 1}, {92, 64, 0}, {95},
            {83, 1, 0, 0, 4, 4, 0, 1}, {93, 1, 64, 0}, {94, 1, 0, 3}};
        for (int[] b : bodies) {
            int[] bytes = java.util.Arrays.copyOfRange(b, 1, b.length);
            Bytes once = new Bytes().segment(b[0], bytes);
            Bytes main = new Bytes().main(2, 2);
            if (b[0] == 82 || b[0] == 92) {
                new Bytes().add(main).add(once).refused(b[0] + " twice", 4, 68);
            } else {
                new Bytes().add(main).add(once).add(once)
                        .refused(b[0] + " twice", 4, 68 + once.size());
            }
            Bytes inPart = new Bytes().main(2, 2).part(0, 14 + 2 * once.size(), 0, 0).add(once)
                    .add(once).mark(147).end();
            inPart.refused(b[0] + " twice in a part", 4, 80 + once.size());
            Bytes all = new Bytes().add(main);
            if (b[0] != 82 && b[0] != 92) {
                all.add(once);
            }
            all.part(0, 14 + once.size(), 0, 0).add(once).mark(147)
                    .part(1, 14 + once.size(), 0, 0).add(once).mark(147).end()
                    .accepted(b[0] + " in main and in each tile");
        }
        main1().segment(82, 0, 9, 0, 1, 0, 0, 4, 4, 0, 1).refused("5 before 4", 5, 65);
        new Bytes().main(1, 2).segment(94, 0, 0, 1).segment(94, 1, 0, 1).barePart(0, 0, 0).end()
                .accepted("of different components");
    }

    private static void missing() {
        new Bytes().start(1, 1).end().refused("nothing but SIZE", 6, 45);
        main1().end().refused("no part", 6, 65);
        new Bytes().start(1, 1).coding().barePart(0, 0, 0).end().refused("no 92", 6, 59);
        new Bytes().start(1, 1).steps().barePart(0, 0, 0).end().refused("no 82", 6, 51);
        Bytes first = new Bytes().coding().steps();
        new Bytes().start(1, 1).part(0, 34, 0, 0).add(first).mark(147).end()
                .refused("82 and 92 only in a part", 6, 45);
        new Bytes().start(1, 1).segment(83, 0, 0, 0, 4, 4, 0, 1).segment(93, 0, 64, 0)
                .barePart(0, 0, 0).end().refused("83 and 93 alone", 6, 63);
        new Bytes().main(2, 1).barePart(0, 0, 0).end().refused("no tile 1", 6, 79);
        new Bytes().main(2, 1).barePart(1, 0, 0).end().refused("no tile 0", 6, 79);
        main1().barePart(0, 0, 2).end().refused("one part of two", 6, 79);
        main1().barePart(0, 0, 2).barePart(0, 1, 0).barePart(0, 2, 0).end()
                .refused("three parts of two", 6, 107);
    }

    /** 1, 2, 3, 7, 5, 4, 6: what comes first is told, even if more is wrong. */
    private static void firstNumberFirst() {
        main1().segment(82, 0, 9, 255, 0, 0, 0, 4, 4, 0, 1).refused("7 before 5 and 4", 7, 65);
        main1().segment(82, 0, 9, 255, 0, 0, 0, 4, 4, 0).refused("3 before 7", 3, 65);
        main1().part(0, 0, 0, 0).mark(96).u2(0).end().refused("2 before 3", 2, 77);
        new Bytes().start(1, 1).part(3, 14, 0, 0).mark(147).end().refused("5 before 6", 5, 45);
        new Bytes().start(1, 1).mark(144).u2(9).u4(0).u4(0).refused("3 before 6", 3, 45);
    }

    private static void place() {
        Counted x = new Counted();
        Check.same("21 no scan", x.place(), -1);
        x.mark(79);
        x.put(255);
        Check.same("21 no scan yet", x.place(), -1);
        Check.same("21 scan", x.scan(), 1);
        Check.same("21 place", x.place(), 2);
        x.clear();
        x.plan();
        x.put(1);
        Check.same("21 stays", x.place(), 2);
        Check.refuses("21 not scanned", STATE, () -> x.use(0));
        Check.same("21 stays behind what throws", x.place(), 2);
        Check.same("21 scan", x.scan(), 1);
        Check.same("21 place 0", x.place(), 0);
        main1().barePart(0, 0, 1).end().feed(x);
        Check.same("21 stays at 0", x.place(), 0);
        Check.same("21 accepted", x.scan(), 0);
        Check.same("21 -1", x.place(), -1);
        Check.refuses("21 no byte", NoSuchElementException.class, () -> x.spoil(-5, 0));
        x.spoil(0, 0);
        Check.same("21 still -1", x.place(), -1);
    }
}
