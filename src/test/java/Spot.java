/** One segment, in an otherwise good stream: the scan refuses it there, or takes it (number 0). */
final class Spot {
    /** The places behind START and SIZE, CODING, STEPS, PART: two components, one tile. */
    static final int BEHIND_SIZE = 48;
    static final int BEHIND_CODING = 62;
    static final int BEHIND_MAIN = 68;
    static final int IN_PART = 80;

    private Spot() {
    }

    /** Among the main segments; CODING and STEPS instead of the good ones. */
    static void main(String what, int number, int m, int... bytes) {
        Bytes x = new Bytes().start(1, 2);
        int place = BEHIND_SIZE;
        if (m != 82) {
            x.coding();
            place = BEHIND_CODING;
        }
        if (m != 82 && m != 92) {
            x.steps();
            place = BEHIND_MAIN;
        }
        x.segment(m, bytes);
        if (m == 82) {
            x.steps();
        }
        x.barePart(0, 0, 0).end().refused(what + " in main", number, number == 0 ? -1 : place);
    }

    /** In the first part of a tile. */
    static void part(String what, int number, int m, int... bytes) {
        new Bytes().main(1, 2).part(0, 14 + 4 + bytes.length, 0, 0).segment(m, bytes).mark(147)
                .end().refused(what + " in a part", number, number == 0 ? -1 : IN_PART);
    }

    static void both(String what, int number, int m, int... bytes) {
        main(what, number, m, bytes);
        part(what, number, m, bytes);
    }

    static int[] with(int[] bytes, int k, int b) {
        int[] copy = bytes.clone();
        copy[k] = b;
        return copy;
    }
}
