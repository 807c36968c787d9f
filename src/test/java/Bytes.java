import java.util.ArrayList;
import java.util.List;

/** Builds a stream byte by byte, and feeds it to a new object. */
final class Bytes {
    private static final int OLD_WIDTH = 7777;

    private final List<Integer> row = new ArrayList<>();

    Bytes u1(int... numbers) {
        for (int number : numbers) {
            row.add(number & 255);
        }
        return this;
    }

    Bytes u2(int number) {
        return u1(number >> 8, number);
    }

    Bytes u4(long number) {
        return u2((int) (number >> 16)).u2((int) number);
    }

    Bytes mark(int m) {
        return u1(255, m);
    }

    /** A segment whose length is as its bytes are. */
    Bytes segment(int m, int... bytes) {
        return mark(m).u2(2 + bytes.length).u1(bytes);
    }

    /** START and a SIZE of one component. */
    Bytes startOf(long x0, long y0, long x1, long y1, long... tiles) {
        mark(79).mark(81).u2(41).u2(0).u4(x1).u4(y1).u4(x0).u4(y0);
        return u4(tiles[2]).u4(tiles[3]).u4(tiles[0]).u4(tiles[1]).u2(1).u1(7, 1, 1);
    }

    /** START and a SIZE of tiles of 4 by 4, side by side, with some components of 8 bits. */
    Bytes start(int tiles, int components) {
        mark(79).mark(81).u2(38 + 3 * components).u2(0);
        u4(4L * tiles).u4(4).u4(0).u4(0).u4(4).u4(4).u4(0).u4(0).u2(components);
        for (int c = 0; c < components; c++) {
            u1(7, 1, 1);
        }
        return this;
    }

    Bytes coding() {
        return segment(82, 0, 0, 0, 1, 0, 0, 4, 4, 0, 1);
    }

    Bytes steps() {
        return segment(92, 64, 0);
    }

    /** START, SIZE, CODING and STEPS. */
    Bytes main(int tiles, int components) {
        return start(tiles, components).coding().steps();
    }

    Bytes part(int tile, long span, int part, int parts) {
        return mark(144).u2(10).u2(tile).u4(span).u1(part, parts);
    }

    /** A part without segments and bytes. */
    Bytes barePart(int tile, int part, int parts) {
        return part(tile, 14, part, parts).mark(147);
    }

    Bytes end() {
        return mark(217);
    }

    Bytes add(Bytes other) {
        row.addAll(other.row);
        return this;
    }

    Bytes cutTo(int size) {
        while (row.size() > size) {
            row.remove(row.size() - 1);
        }
        return this;
    }

    Bytes set(int k, int b) {
        row.set(k, b & 255);
        return this;
    }

    int size() {
        return row.size();
    }

    int[] toArray() {
        int[] array = new int[row.size()];
        for (int k = 0; k < array.length; k++) {
            array[k] = row.get(k);
        }
        return array;
    }

    /** By few calls, as an object is used for 512 at most: parts and marks at once. */
    <X extends Face> X feed(X x) {
        x.clear();
        return feedMore(x);
    }

    /** Behind what is there. */
    <X extends Face> X feedMore(X x) {
        for (int k = 0; k < row.size(); k += bytesAtOnce(k)) {
            switch (bytesAtOnce(k)) {
                case 14:
                    x.part(at2(k + 4), row.get(k + 10), row.get(k + 11), at2(k + 8) - 14);
                    break;
                case 2:
                    x.mark(row.get(k + 1));
                    break;
                default:
                    x.put(row.get(k));
                    break;
            }
        }
        return x;
    }

    /** How many calls feed() needs. */
    int calls() {
        int calls = 1;
        for (int k = 0; k < row.size(); k += bytesAtOnce(k)) {
            calls++;
        }
        return calls;
    }

    private int bytesAtOnce(int k) {
        if (isPartWithoutSegments(k)) {
            return 14;
        }
        return k + 1 < row.size() && row.get(k) == 255 ? 2 : 1;
    }

    private int at2(int k) {
        return 256 * row.get(k) + row.get(k + 1);
    }

    private boolean isPartWithoutSegments(int k) {
        return k + 14 <= row.size() && at2(k) == 0xff90 && at2(k + 2) == 10 && at2(k + 6) == 0
                && at2(k + 8) >= 14 && at2(k + 12) == 0xff93;
    }

    /** The scan refuses this stream by a number, at a place, and what is asked is as before. */
    void refused(String what, int number, int place) {
        Counted x = new Counted();
        x.picture(0, 0, OLD_WIDTH, 1);
        feed(x);
        Check.same(what + ": scan()", x.scan(), number);
        Check.same(what + ": place()", x.place(), place);
        if (number == 0) {
            Check.yes(what + ": another plan", x.get(2, 0, 0) != OLD_WIDTH);
            Check.yes(what + ": parts", x.found(-1, 0) > 0);
            return;
        }
        Check.same(what + ": the picture stays", x.get(2, 0, 0), OLD_WIDTH);
        Check.same(what + ": no component", x.get(8, 0, 0), 0);
        Check.same(what + ": the bytes stay", x.at(-1), row.size());
        Check.refuses(what + ": found", IllegalStateException.class, () -> x.found(-1, 0));
        Check.refuses(what + ": use", IllegalStateException.class, () -> x.use(0));
        Check.refuses(what + ": head", IllegalStateException.class, () -> x.head(0, 0));
        Check.same(what + ": place() then", x.place(), place);
        Check.same(what + ": scan() again", x.scan(), number);
    }

    void accepted(String what) {
        refused(what, 0, -1);
    }
}
