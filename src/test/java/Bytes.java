import java.util.ArrayList;
import java.util.List;

/** Builds a stream byte by byte, and feeds it to a new object. */
final class Bytes {
    private final List<Integer> row = new ArrayList<>();

    Bytes u1(int... numbers) {
        for (int number : numbers) {
            row.add(number & 255);
        }
        return this;
    }

    Bytes u2(int number) {
        return u1(number >> 8, number);
    }

    Bytes u4(long number) {
        return u2((int) (number >> 16)).u2((int) number);
    }

    Bytes mark(int m) {
        return u1(255, m);
    }

    /** A segment whose length is as its bytes are. */
    Bytes segment(int m, int... bytes) {
        return mark(m).u2(2 + bytes.length).u1(bytes);
    }

    /** START and a SIZE of tiles of 4 by 4, side by side, with some components of 8 bits. */
    Bytes start(int tiles, int components) {
        mark(79).mark(81).u2(38 + 3 * components).u2(0);
        u4(4L * tiles).u4(4).u4(0).u4(0).u4(4).u4(4).u4(0).u4(0).u2(components);
        for (int c = 0; c < components; c++) {
            u1(7, 1, 1);
        }
        return this;
    }

    Bytes coding() {
        return segment(82, 0, 0, 0, 1, 0, 0, 4, 4, 0, 1);
    }

    Bytes steps() {
        return segment(92, 64, 0);
    }

    /** START, SIZE, CODING and STEPS. */
    Bytes main(int tiles, int components) {
        return start(tiles, components).coding().steps();
    }

    Bytes part(int tile, long span, int part, int parts) {
        return mark(144).u2(10).u2(tile).u4(span).u1(part, parts);
    }

    /** A part without segments and bytes. */
    Bytes barePart(int tile, int part, int parts) {
        return part(tile, 14, part, parts).mark(147);
    }

    Bytes end() {
        return mark(217);
    }

    Bytes add(Bytes other) {
        row.addAll(other.row);
        return this;
    }

    Bytes cutTo(int size) {
        while (row.size() > size) {
            row.remove(row.size() - 1);
        }
        return this;
    }

    Bytes set(int k, int b) {
        row.set(k, b & 255);
        return this;
    }

    int size() {
        return row.size();
    }

    int[] toArray() {
        int[] array = new int[row.size()];
        for (int k = 0; k < array.length; k++) {
            array[k] = row.get(k);
        }
        return array;
    }

    StreamMarks feed(StreamMarks x) {
        x.clear();
        for (int b : row) {
            x.put(b);
        }
        return x;
    }

    /** The scan refuses this stream by a number, at a place. */
    void refused(String what, int number, int place) {
        StreamMarks x = feed(new StreamMarks());
        Check.same(what + ": scan()", x.scan(), number);
        Check.same(what + ": place()", x.place(), place);
    }

    void accepted(String what) {
        refused(what, 0, -1);
    }
}
