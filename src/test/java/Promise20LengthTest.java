/** Promise 20, scan(), number 3: a length below 2, or not what such a segment needs. */
public final class Promise20LengthTest {
    public static void main(String[] args) throws ReflectiveOperationException {
        Check.runAll(Promise20LengthTest.class);
    }

    private static Bytes main1() {
        return new Bytes().main(1, 1);
    }

    /** A segment whose length counts less than itself, with bytes enough behind it. */
    private static void tooShort(int m, int length) {
        main1().mark(m).u2(length).barePart(0, 0, 0).end()
                .refused("mark " + m + " of " + length, 3, 65);
    }

    private static int[] cut(int[] bytes, int size) {
        return java.util.Arrays.copyOf(bytes, size);
    }

    /** Taken as it is, refused with a byte less or more. */
    private static void justSo(String what, int m, int... bytes) {
        Spot.both(what, 0, m, bytes);
        Spot.both(what + ", a byte less", 3, m, cut(bytes, bytes.length - 1));
        Spot.both(what + ", a byte more", 3, m, cut(bytes, bytes.length + 1));
    }

    static void belowTwo() {
        int[] marks = {0, 1, 47, 64, 78, 80, 82, 83, 84, 85, 87, 92, 93, 94, 95, 96, 99, 100, 101,
            143, 144, 145, 148, 216, 218, 255};
        for (int m : marks) {
            tooShort(m, 0);
            tooShort(m, 1);
        }
        int[] ofParts = {88, 97, 100, 82, 255};
        for (int m : ofParts) {
            for (int length = 0; length <= 1; length++) {
                main1().part(0, 18, 0, 0).mark(m).u2(length).mark(147).end()
                        .refused("mark " + m + " in a part", 3, 77);
            }
        }
        new Bytes().mark(79).mark(81).u2(0).refused("SIZE of 0", 3, 2);
        new Bytes().mark(79).mark(81).u2(1).refused("SIZE of 1", 3, 2);
    }

    static void anythingOfTwoOrMore() {
        int[] ofMain = {85, 87, 99};
        for (int m : ofMain) {
            Spot.main("mark " + m, 0, m);
            Spot.main("mark " + m, 0, m, 9);
            Spot.main("mark " + m, 0, m, new int[250]);
        }
        Spot.part("mark 88", 0, 88);
        Spot.part("mark 88", 0, 88, new int[250]);
        int[] ofBoth = {0, 100, 101, 255};
        for (int m : ofBoth) {
            Spot.both("mark " + m, 0, m);
            Spot.both("mark " + m, 0, m, 9);
            Spot.both("mark " + m, 0, m, new int[260]);
        }
    }

    static void sizeByItsComponents() {
        for (int n = 1; n <= 16; n += 5) {
            int length = 38 + 3 * n;
            new Bytes().main(1, n).barePart(0, 0, 0).end().accepted("of " + n);
            new Bytes().main(1, n).set(5, length - 1).refused("shorter", 3, 2);
            new Bytes().main(1, n).set(5, length + 1).refused("longer", 3, 2);
            new Bytes().main(1, n).set(5, length - 3).refused("one too few", 3, 2);
            new Bytes().main(1, n).set(5, length + 3).refused("one too many", 3, 2);
            new Bytes().main(1, n).set(41, n + 1).refused("one more told", 3, 2);
        }
    }

    /** 38 bytes are enough to tell that there is no component, which is no value. */
    static void sizeWithoutComponents() {
        Bytes x = new Bytes().main(1, 1).set(41, 0);
        new Bytes().add(x).set(5, 37).refused("37", 3, 2);
        new Bytes().add(x).set(5, 38).refused("38", 5, 2);
        new Bytes().add(x).set(5, 39).refused("39", 3, 2);
    }

    /** 3 times 21846 is 65538: a length of 40 would do, if it were counted by 16 bits. */
    static void sizeOfVeryManyComponents() {
        new Bytes().main(1, 1).set(5, 40).set(40, 21846 >> 8).set(41, 21846 & 255)
                .refused("21846", 3, 2);
        new Bytes().main(1, 1).set(40, 255).set(41, 255).refused("65535", 3, 2);
    }

    static void codingWithoutPrecincts() {
        justSo("no levels", 82, 0, 0, 0, 1, 0, 0, 4, 4, 0, 1);
        justSo("32 levels", 82, 6, 0, 0, 1, 0, 32, 4, 4, 0, 1);
        justSo("its, no levels", 83, 1, 0, 0, 4, 4, 0, 1);
        justSo("its, 32 levels", 83, 1, 0, 32, 4, 4, 0, 1);
    }

    static void codingWithPrecincts() {
        justSo("no levels", 82, 1, 0, 0, 1, 0, 0, 4, 4, 0, 1, 255);
        justSo("two levels", 82, 7, 0, 0, 1, 0, 2, 4, 4, 0, 1, 255, 255, 255);
        justSo("its, no levels", 83, 1, 1, 0, 4, 4, 0, 1, 255);
        justSo("its, two levels", 83, 1, 1, 2, 4, 4, 0, 1, 255, 255, 255);
        int[] most = new int[10 + 33];
        java.util.Arrays.fill(most, 255);
        System.arraycopy(new int[] {1, 0, 0, 1, 0, 32, 4, 4, 0, 1}, 0, most, 0, 10);
        justSo("32 levels", 82, most);
        int[] its = new int[7 + 33];
        java.util.Arrays.fill(its, 255);
        System.arraycopy(new int[] {1, 1, 32, 4, 4, 0, 1}, 0, its, 0, 7);
        justSo("its, 32 levels", 83, its);
    }

    /** So short that the levels, or even the flags, are not told. */
    static void codingThatDoesNotTellItsLevels() {
        int[] coding = {1, 0, 0, 1, 0, 0, 4, 4, 0, 1};
        for (int size = 0; size <= 9; size++) {
            Spot.both("CODING of " + size, 3, 82, cut(coding, size));
        }
        int[] its = {1, 1, 0, 4, 4, 0, 1};
        for (int size = 0; size <= 6; size++) {
            Spot.both("ITS CODING of " + size, 3, 83, cut(its, size));
        }
    }

    private static int[] steps(int first, int second, int bytes) {
        int[] all = new int[(first < 0 ? 1 : 2) + bytes];
        all[0] = first < 0 ? second : first;
        if (first >= 0) {
            all[1] = second;
        }
        return all;
    }

    private static void bothSteps(String what, int number, int both, int bytes) {
        Spot.both(what + " of " + bytes, number, 92, steps(-1, both, bytes));
        Spot.both("its " + what + " of " + bytes, number, 93, steps(1, both, bytes));
    }

    /** One byte for each of 1, 4, 7 .. 97 values. */
    static void stepsOfKindZero() {
        for (int bytes = 0; bytes <= 103; bytes++) {
            boolean due = bytes % 3 == 1 && bytes <= 97;
            bothSteps("kind 0", due ? 0 : 3, 224, bytes);
        }
    }

    static void stepsOfKindOne() {
        for (int bytes = 0; bytes <= 14; bytes++) {
            bothSteps("kind 1", bytes == 2 ? 0 : 3, 1, bytes);
        }
        bothSteps("kind 1", 3, 1, 194);
    }

    /** Two bytes for each of 1, 4, 7 .. 97 values. */
    static void stepsOfKindTwo() {
        for (int bytes = 0; bytes <= 206; bytes++) {
            boolean due = bytes % 6 == 2 && bytes <= 194;
            bothSteps("kind 2", due ? 0 : 3, 66, bytes);
        }
    }

    /** "Of a kind above 2 any length that has the kind is as it needs" */
    static void stepsOfAKindAboveTwo() {
        int[] kinds = {3, 4, 31, 255};
        for (int both : kinds) {
            for (int bytes = 0; bytes <= 8; bytes++) {
                bothSteps("kind " + (both & 31), 5, both, bytes);
            }
            bothSteps("kind " + (both & 31), 5, both, 250);
        }
    }

    static void stepsThatDoNotTellTheirKind() {
        Spot.both("no kind", 3, 92);
        Spot.both("no component", 3, 93);
        Spot.both("a component, but no kind", 3, 93, 1);
        Spot.both("a component that is not there, no kind", 3, 93, 9);
    }

    static void shiftOfThreeBytes() {
        justSo("SHIFT", 94, 1, 0, 3);
        Spot.both("SHIFT of none", 3, 94);
        Spot.both("SHIFT of one", 3, 94, 1);
    }

    /** Seven bytes each; none may be. */
    static void changesOfSevenBytes() {
        Spot.both("none", 0, 95);
        for (int bytes = 1; bytes <= 22; bytes++) {
            int[] told = new int[bytes];
            for (int k = 0; k < bytes; k++) {
                told[k] = k % 7 >= 3 && k % 7 <= 5 ? 1 : 0;
            }
            Spot.both("CHANGES of " + bytes, bytes % 7 == 0 ? 0 : 3, 95, told);
        }
    }

    static void headsOfANumber() {
        Spot.main("no number", 3, 96);
        Spot.main("a number", 0, 96, 0);
        Spot.main("bytes", 0, 96, 0, 1);
        Spot.part("no number", 3, 97);
        Spot.part("a number", 0, 97, 0);
        Spot.part("bytes", 0, 97, 0, 1);
    }

    static void partOfTen() {
        for (int length = 0; length <= 16; length++) {
            Bytes x = main1().barePart(0, 0, 0).set(68, length).end().u2(0);
            x.refused("PART of " + length, length == 10 ? 0 : 3, length == 10 ? -1 : 65);
        }
        main1().barePart(0, 0, 0).barePart(0, 1, 0).set(82, 9).end().refused("later", 3, 79);
        main1().barePart(0, 0, 0).set(67, 1).end().refused("266, cut", 1, 65);
    }
}
