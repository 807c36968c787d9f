/** Promise 20, scan(): of 1, 2, 3, 7, 5, 4, 6 the first that is so, at the first wrong mark. */
public final class Promise20FirstNumberTest {
    public static void main(String[] args) throws ReflectiveOperationException {
        Check.runAll(Promise20FirstNumberTest.class);
    }

    private static Bytes main1() {
        return new Bytes().main(1, 1);
    }

    private static Bytes parts256() {
        Bytes x = main1();
        for (int n = 0; n < 256; n++) {
            x.barePart(0, n, 0);
        }
        return x;
    }

    static void oneBeforeTwo() {
        new Bytes().u1(0).refused("no byte 255", 1, 0);
        new Bytes().mark(81).u1(0).refused("SIZE first, its length cut", 1, 0);
        new Bytes().mark(81).u2(3).refused("SIZE first, cut", 1, 0);
        new Bytes().mark(81).u2(2).refused("SIZE first", 2, 0);
        main1().mark(97).u2(3).refused("97 among main, cut", 1, 65);
        main1().part(0, 17, 0, 0).mark(96).u2(3).mark(147).end().refused("96, just cut", 2, 77);
        main1().part(0, 16, 0, 0).mark(96).u2(3).mark(147).end().refused("96, cut", 1, 77);
        main1().barePart(0, 0, 0).mark(100).u2(3).refused("100 behind a part, cut", 1, 79);
        main1().segment(96, 0).part(0, 16, 0, 0).mark(97).u2(3).mark(147).end()
                .refused("96 and 97, cut", 1, 82);
    }

    static void oneBeforeThree() {
        main1().mark(94).u2(4).u1(0).refused("SHIFT of 4, cut", 1, 65);
        main1().mark(94).u2(4).u1(0, 0).refused("SHIFT of 4", 3, 65);
    }

    static void oneBeforeSeven() {
        new Bytes().start(1, 17).cutTo(2 + 2 + 89 - 1).refused("17 components, cut", 1, 2);
        new Bytes().start(1, 17).refused("17 components", 7, 2);
        parts256().part(0, 14, 0, 0).cutTo(65 + 256 * 14 + 11)
                .refused("a 257th part, cut", 1, 65 + 256 * 14);
    }

    static void oneBeforeFiveFourAndSix() {
        main1().mark(94).u2(5).u1(9, 9).refused("no values, cut", 1, 65);
        main1().mark(82).u2(12).u1(0, 0, 0, 1).refused("82 again, cut", 1, 65);
        new Bytes().start(1, 1).part(0, 14, 0, 0).cutTo(45 + 11).refused("no 82, cut", 1, 45);
        new Bytes().start(1, 1).part(0, 14, 0, 0).refused("no 82, its span beyond", 1, 45);
        new Bytes().start(1, 1).u1(255).refused("no 82, half of END", 1, 45);
    }

    static void twoBeforeThree() {
        main1().mark(97).u2(0).refused("97 among main", 2, 65);
        main1().part(0, 18, 0, 0).mark(96).u2(1).mark(147).end().refused("96 in a part", 2, 77);
        main1().barePart(0, 0, 0).part(0, 18, 1, 0).mark(82).u2(2).mark(147).end()
                .refused("82 in a second part", 2, 91);
        main1().segment(96, 0).part(0, 18, 0, 0).segment(97).mark(147).end()
                .refused("96 and 97", 2, 82);
    }

    static void twoBeforeSevenFiveAndFour() {
        main1().barePart(0, 0, 0).part(0, 28, 1, 0).segment(82, 9, 9, 9, 9, 9, 0, 9, 9, 99, 9)
                .mark(147).end().refused("256 layers in a second part", 2, 91);
        main1().segment(96, 0).part(0, 19, 0, 0).segment(97, 7).mark(147).end()
                .refused("97 behind 96, of a wrong number", 2, 82);
        Bytes own = new Bytes().coding();
        main1().part(0, 28, 0, 0).add(own).mark(147).part(0, 28, 1, 0).add(own).mark(147).end()
                .refused("82 again, in a second part", 2, 65 + 28 + 12);
    }

    static void twoBeforeSix() {
        new Bytes().start(1, 1).mark(147).refused("DATA without PART", 2, 45);
        new Bytes().main(2, 1).barePart(0, 0, 0).mark(79).end().refused("no tile 1", 2, 79);
    }

    static void threeBeforeSeven() {
        new Bytes().start(1, 17).u1(0).set(5, 90).refused("17 components", 3, 2);
        Spot.both("256 layers", 3, 82, 0, 0, 1, 0, 0, 0, 4, 4, 0, 1, 0);
        Spot.both("33 changes and a byte", 3, 95, new int[33 * 7 + 1]);
        parts256().mark(144).u2(11).u4(0).u4(0).u1(0)
                .refused("a 257th part", 3, 65 + 256 * 14);
    }

    static void threeBeforeFiveFourAndSix() {
        main1().mark(94).u2(4).u1(9, 9).refused("SHIFT", 3, 65);
        main1().segment(82, 0).refused("82 again", 3, 65);
        main1().segment(95).segment(95, 1).refused("95 again", 3, 69);
        new Bytes().start(1, 1).mark(144).u2(9).u4(0).u4(0).refused("no 82", 3, 45);
    }

    static void sevenBeforeFive() {
        new Bytes().start(1, 17).set(42, 127).refused("17 components, no bits", 7, 2);
        Spot.both("256 layers, order 5", 7, 82, 0, 5, 1, 0, 0, 0, 4, 4, 0, 1);
        Spot.both("256 layers, flags 8", 7, 82, 8, 0, 1, 0, 0, 0, 4, 4, 0, 1);
        Spot.both("33 changes of nothing", 7, 95, new int[33 * 7]);
        parts256().barePart(1, 0, 0).refused("a 257th part of no tile", 7, 65 + 256 * 14);
    }

    static void sevenBeforeFourAndSpan() {
        main1().segment(82, 0, 0, 1, 0, 0, 0, 4, 4, 0, 1).refused("82 again", 7, 65);
        main1().segment(95).segment(95, new int[33 * 7]).refused("95 again", 7, 69);
        parts256().part(0, 999, 255, 0).refused("a 257th part, beyond", 7, 65 + 256 * 14);
    }

    static void fiveBeforeFour() {
        main1().segment(82, 0, 5, 0, 1, 0, 0, 4, 4, 0, 1).refused("82 again", 5, 65);
        main1().segment(92, 3).refused("92 again", 5, 65);
        main1().segment(94, 0, 0, 1).segment(94, 0, 0, 38).refused("94 again", 5, 72);
        main1().segment(95).segment(95, 0, 0, 0, 0, 1, 1, 0).refused("95 again", 5, 69);
        main1().segment(83, 0, 0, 0, 4, 4, 0, 1).segment(83, 0, 2, 0, 4, 4, 0, 1)
                .refused("83 again", 5, 76);
        main1().segment(93, 0, 0, 0).segment(93, 0, 3).refused("93 again", 5, 72);
    }

    static void fiveBeforeSixAndSpan() {
        new Bytes().start(1, 1).barePart(1, 0, 0).end().refused("no 82, no tile", 5, 45);
        main1().part(1, 999, 0, 0).refused("no tile, beyond", 5, 65);
        main1().part(0, 999, 1, 0).refused("part 1, beyond", 5, 65);
        main1().part(0, 13, 0, 0).refused("span 13, beyond", 5, 65);
        main1().part(1, 0, 0, 0).refused("no tile, span 0 without END", 5, 65);
    }

    /** "Of a PART, if nothing else is wrong but 6: 1" */
    static void theSpanBeforeSix() {
        new Bytes().start(1, 1).part(0, 15, 0, 0).mark(147).refused("beyond", 1, 45);
        new Bytes().start(1, 1).part(0, 14, 0, 0).mark(147).refused("just there", 6, 45);
        new Bytes().start(1, 1).part(0, 0, 0, 0).mark(147).refused("no END", 1, 45);
        new Bytes().start(1, 1).part(0, 0, 0, 0).end().refused("END", 6, 45);
    }

    static void theFirstMarkThatIsWrong() {
        main1().segment(94, 9, 9, 9).segment(94, 0).refused("5, then 3", 5, 65);
        main1().segment(94, 0).segment(97, 0).refused("3, then 2", 3, 65);
        main1().mark(97).u2(2).u1(255).refused("2, then 1", 2, 65);
        new Bytes().main(2, 1).barePart(0, 0, 0).barePart(0, 0, 0).end()
                .refused("5, then 6", 5, 79);
        main1().coding().steps().refused("4, then 4", 4, 65);
    }
}
