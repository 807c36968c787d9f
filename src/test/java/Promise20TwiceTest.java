/** Promise 20, scan(), number 4: what may not be twice, and where it may. */
public final class Promise20TwiceTest {
    public static void main(String[] args) throws ReflectiveOperationException {
        Check.runAll(Promise20TwiceTest.class);
    }

    private static Bytes one(int m, int c) {
        switch (m) {
            case 82: return new Bytes().coding();
            case 92: return new Bytes().steps();
            case 83: return new Bytes().segment(83, c, 0, 0, 4, 4, 0, 1);
            case 93: return new Bytes().segment(93, c, 64, 0);
            case 94: return new Bytes().segment(94, c, 0, 3);
            default: return new Bytes().segment(95);
        }
    }

    /** SIZE, then CODING and STEPS but for the mark that is to be told. */
    private static Bytes mainBut(int m) {
        Bytes x = new Bytes().start(2, 3);
        if (m != 82) {
            x.coding();
        }
        if (m != 92) {
            x.steps();
        }
        return x;
    }

    private static Bytes bothTiles(Bytes x) {
        return x.barePart(0, 0, 0).barePart(1, 0, 0).end();
    }

    private static void twiceAmongMain(int m, int c) {
        Bytes single = one(m, c);
        bothTiles(mainBut(m).add(single)).accepted(m + " once");
        int place = mainBut(m).add(single).size();
        bothTiles(mainBut(m).add(single).add(single)).refused(m + " twice", 4, place);
        bothTiles(mainBut(m).add(single).segment(100, 1).add(single))
                .refused(m + " twice, with another between", 4, place + 5);
    }

    private static void twiceInATile(int m, int c) {
        Bytes single = one(m, c);
        int size = single.size();
        new Bytes().main(2, 3).barePart(0, 0, 0).part(1, 14 + size, 0, 0).add(single).mark(147)
                .end().accepted(m + " once in a tile");
        int place = new Bytes().main(2, 3).size() + 14 + 12 + size;
        new Bytes().main(2, 3).barePart(0, 0, 0).part(1, 14 + 2 * size, 0, 0).add(single)
                .add(single).mark(147).end().refused(m + " twice in a tile", 4, place);
    }

    private static void onceInEach(int m, int c) {
        Bytes single = one(m, c);
        int span = 14 + single.size();
        mainBut(m).add(single).part(0, span, 0, 0).add(single).mark(147).part(1, span, 0, 0)
                .add(single).mark(147).end().accepted(m + " in main and in each tile");
    }

    static void coding() {
        twiceAmongMain(82, 0);
        twiceInATile(82, 0);
        onceInEach(82, 0);
    }

    static void steps() {
        twiceAmongMain(92, 0);
        twiceInATile(92, 0);
        onceInEach(92, 0);
    }

    /** Also if the changes are none. */
    static void changes() {
        twiceAmongMain(95, 0);
        twiceInATile(95, 0);
        onceInEach(95, 0);
        Bytes some = new Bytes().segment(95, 0, 0, 0, 1, 1, 1, 0);
        bothTiles(mainBut(95).segment(95).add(some)).refused("none, then some", 4, 71 + 4);
        bothTiles(mainBut(95).add(some).segment(95)).refused("some, then none", 4, 71 + 11);
    }

    static void itsCodingItsStepsAndShiftOfTheSameComponent() {
        int[] marks = {83, 93, 94};
        for (int m : marks) {
            for (int c = 0; c < 3; c++) {
                twiceAmongMain(m, c);
                twiceInATile(m, c);
                onceInEach(m, c);
            }
        }
    }

    static void ofDifferentComponents() {
        int[] marks = {83, 93, 94};
        Bytes all = new Bytes();
        for (int m : marks) {
            all.add(one(m, 2)).add(one(m, 0)).add(one(m, 1));
        }
        bothTiles(mainBut(95).add(all)).accepted("in main");
        new Bytes().main(2, 3).part(0, 14 + all.size(), 0, 0).add(all).mark(147)
                .part(1, 14 + all.size(), 0, 0).add(all).mark(147).end().accepted("in tiles");
    }

    /** Of sixteen components each once, then the last again, and the first again. */
    static void ofSixteenComponents() {
        int[] marks = {83, 93, 94};
        for (int m : marks) {
            Bytes all = new Bytes().main(1, 16);
            for (int c = 0; c < 16; c++) {
                all.add(one(m, c));
            }
            int place = all.size();
            new Bytes().add(all).barePart(0, 0, 0).end().accepted(m + " of each");
            new Bytes().add(all).add(one(m, 15)).refused(m + " of the last", 4, place);
            new Bytes().add(all).add(one(m, 0)).refused(m + " of the first", 4, place);
        }
    }

    static void theOthersMayBeTwice() {
        int[] marks = {85, 87, 99, 100, 101, 0, 255};
        for (int m : marks) {
            bothTiles(mainBut(95).segment(m, 1).segment(m, 1)).accepted(m + " twice");
        }
        bothTiles(mainBut(95).mark(48).mark(48)).accepted("48 twice");
        new Bytes().main(1, 1).part(0, 14 + 20, 0, 0).segment(88, 1).segment(88, 1).segment(100, 1)
                .segment(100, 1).mark(147).end().accepted("88 and 100 twice in a part");
    }

    /** A stream that is scanned again, or behind a refused one, finds nothing of before. */
    static void nothingOfAnEarlierScan() {
        Counted x = new Counted();
        Bytes all = new Bytes().main(2, 3);
        int[] marks = {83, 93, 94, 95};
        for (int m : marks) {
            all.add(one(m, 2));
        }
        Bytes own = new Bytes().add(one(82, 0)).add(one(92, 0)).add(one(83, 2)).add(one(95, 0));
        all.barePart(1, 0, 0).part(0, 14 + own.size(), 0, 0).add(own).mark(147).end().feed(x);
        for (int n = 0; n < 3; n++) {
            Check.same("scan", x.scan(), 0);
        }
        x.spoil(x.at(-1) - 1, 216);
        Check.same("refused", x.scan(), 1);
        x.spoil(x.at(-1) - 1, 217);
        Check.same("taken", x.scan(), 0);
    }
}
