import java.util.NoSuchElementException;

/** Promises 13 to 19: the bytes of the stream. */
public final class StreamTest {
    private static final Class<IllegalArgumentException> ARGUMENT = IllegalArgumentException.class;
    private static final Class<IllegalStateException> STATE = IllegalStateException.class;
    private static final Class<NoSuchElementException> NONE = NoSuchElementException.class;
    private static final Class<UnsupportedOperationException> FULL =
            UnsupportedOperationException.class;

    public static void main(String[] args) {
        clear();
        put();
        at();
        writeSmall();
        writeOthers();
        writeOneUnlike();
        writeScanned();
        writeRefused();
        full();
        part();
        mark();
        spoil();
        Check.end("StreamTest");
    }

    private static Counted scanned() {
        Counted x = new Bytes().main(1, 1).barePart(0, 0, 1).end().feed(new Counted());
        Check.same("scan()", x.scan(), 0);
        Check.same("found()", x.found(-1, 0), 1);
        return x;
    }

    private static void checkBytes(String when, Counted x, int... due) {
        Check.same(when + " size", x.at(-1), due.length);
        for (int k = 0; k < due.length && k < x.at(-1); k++) {
            Check.same(when + " at(" + k + ")", x.at(k), due[k]);
        }
    }

    private static void clear() {
        Counted x = scanned();
        x.clear();
        Check.same("13 empty", x.at(-1), 0);
        Check.refuses("13 not scanned", STATE, () -> x.found(-1, 0));
        Check.same("13 the plan stays", x.get(8, 0, 0), 1);
        Check.same("13 put", x.put(3), 1);
        checkBytes("13", x, 3);
    }

    private static void put() {
        Counted x = new Counted();
        Check.refuses("14 -1", ARGUMENT, () -> x.put(-1));
        Check.refuses("14 256", ARGUMENT, () -> x.put(256));
        Check.same("14 first", x.put(0), 1);
        Check.same("14 second", x.put(255), 2);
        checkBytes("14", x, 0, 255);
        Counted y = scanned();
        Check.refuses("14 wrong", ARGUMENT, () -> y.put(999));
        Check.same("14 still scanned", y.found(-1, 0), 1);
        y.put(1);
        Check.refuses("14 not scanned", STATE, () -> y.found(-1, 0));
    }

    private static void at() {
        Counted x = new Counted();
        Check.refuses("15 none", NONE, () -> x.at(0));
        x.put(128);
        Check.same("15 at(0)", x.at(0), 128);
        Check.same("15 at(-1)", x.at(-1), 1);
        Check.refuses("15 at(1)", NONE, () -> x.at(1));
        Check.refuses("15 at(-2)", NONE, () -> x.at(-2));
        Check.refuses("15 at(65536)", NONE, () -> x.at(65536));
        Check.refuses("15 greatest", NONE, () -> x.at(2147483647));
        for (int k = 1; k < 300; k++) {
            x.put(k & 255);
        }
        Check.same("15 at(299)", x.at(299), 43);
        Check.same("15 at(0) then", x.at(0), 128);
    }

    private static void writeSmall() {
        Counted x = new Counted();
        x.picture(1, 2, 0x01020304, 0x7f000001);
        x.tiles(0, 1, 0x05060708, 0x7fffffff);
        x.component(12, true, 3, 255);
        x.general(2, 255, true, false, true);
        x.put(9);
        Bytes due = new Bytes().u1(9).mark(79).mark(81).u2(41).u2(0).u4(0x01020304).u4(0x7f000001)
                .u4(1).u4(2).u4(0x05060708).u4(0x7fffffff).u4(0).u4(1).u2(1).u1(139, 3, 255)
                .segment(82, 4, 2, 0, 255, 1, 0, 4, 4, 0, 1).segment(92, 64, 0);
        Check.same("16 bytes put", x.write(), due.size() - 1);
        checkBytes("16 small", x, due.toArray());
        Check.same("16 again", x.write(), due.size() - 1);
        Check.same("16 size", x.at(-1), 2 * due.size() - 1);
    }

    private static void writeOthers() {
        Counted x = new Counted();
        x.picture(0, 0, 4, 4);
        for (int c = 0; c < 6; c++) {
            x.component(8, false, 1, 1);
            x.coding(c, 1, 5, 5, 7, false);
        }
        x.step(0, 0, 511);
        x.step(1, 0, 256);      // written alike
        x.step(1, 4, 9999);     // not written
        x.step(2, 3, 256);
        x.step(2, 0, 300);
        x.precincts(1, 2, 1, 1); // above its levels
        x.precincts(3, 1, 15, 14);
        x.coding(4, 0, 5, 5, 7, false);
        x.steps(4, 1, 2, 37);
        x.step(4, 0, 65535);
        x.step(3, 0, 400);
        x.steps(5, 2, 7, 0);
        x.step(5, 0, 258);
        x.steps(0, 0, 2, 1);
        x.change(1, 2, 200, 33, 16, 4);
        x.change(0, 0, 1, 1, 1, 0);
        Bytes due = new Bytes().start(1, 6)
                .segment(82, 0, 0, 0, 1, 0, 1, 3, 3, 7, 0)
                .segment(92, 64, 1, 0, 0, 0)
                .segment(83, 3, 1, 1, 3, 3, 7, 0, 255, 239)
                .segment(83, 4, 0, 0, 3, 3, 7, 0)
                .segment(93, 2, 64, 1, 0, 0, 1)
                .segment(93, 4, 65, 255, 255)
                .segment(93, 5, 226, 1, 2, 0, 0, 0, 0, 0, 0)
                .segment(94, 0, 0, 1)
                .segment(94, 4, 0, 37)
                .segment(95, 1, 2, 0, 200, 33, 16, 4, 0, 0, 0, 1, 1, 1, 0);
        Check.same("16 others", x.write(), due.size());
        checkBytes("16 others", x, due.toArray());

        Counted y = new Counted();
        y.picture(0, 0, 4, 4);
        y.component(8, false, 1, 1);
        y.component(8, false, 1, 1);
        y.coding(0, 1, 6, 6, 0, true);
        y.precincts(0, 0, 0, 0);
        y.general(0, 1, false, true, false);
        Bytes told = new Bytes().start(1, 2)
                .segment(82, 3, 0, 0, 1, 0, 1, 4, 4, 0, 1, 0, 255)
                .segment(92, 64, 0, 0, 0, 0)
                .segment(83, 1, 0, 0, 4, 4, 0, 1)
                .segment(93, 1, 64, 0); // of fewer levels, so of fewer values
        Check.same("16 told", y.write(), told.size());
        checkBytes("16 told", y, told.toArray());
    }

    /** A second component that differs from the first in one number. */
    private static void writeOneUnlike() {
        int[][] codings = {{2, 5, 5, 7}, {1, 4, 5, 7}, {1, 5, 4, 7}, {1, 5, 5, 6}, {1, 5, 5, 7}};
        for (int[] c : codings) {
            Counted x = twoComponents();
            x.coding(1, c[0], c[1], c[2], c[3], false);
            int more = c[0] == 2 ? 11 + 13 : c[1] + c[2] + c[3] == 17 ? 0 : 11;
            Check.same("16 unlike coding", x.write(), 48 + 14 + 9 + more);
        }
        Counted exact = twoComponents();
        exact.coding(1, 1, 5, 5, 7, true);
        Check.same("16 unlike exact", exact.write(), 48 + 14 + 9 + 11);
        int[][] exponents = {{0, 14, 15}, {0, 15, 14}, {1, 14, 15}, {1, 15, 14}};
        for (int[] e : exponents) {
            Counted x = twoComponents();
            x.precincts(1, e[0], e[1], e[2]);
            Check.same("16 unlike precinct", x.write(), 48 + 14 + 9 + 13);
            x.precincts(0, e[0], e[1], e[2]);
            Check.same("16 like precinct", x.write(), 48 + 16 + 9);
        }
        int[][] steps = {{0, 3}, {1, 2}, {2, 2}};
        for (int[] t : steps) {
            Counted x = twoComponents();
            x.steps(1, t[0], t[1], 0);
            int values = t[0] == 0 ? 4 : t[0] == 1 ? 2 : 8;
            Check.same("16 unlike steps", x.write(), 48 + 14 + 9 + 6 + values);
        }
        for (int k = 0; k < 5; k++) {
            Counted x = twoComponents();
            x.step(1, k, 256);
            Check.same("16 unlike value", x.write(), 48 + 14 + 9 + (k < 4 ? 10 : 0));
        }
    }

    private static Counted twoComponents() {
        Counted x = new Counted();
        x.picture(0, 0, 4, 4);
        for (int c = 0; c < 2; c++) {
            x.component(8, false, 1, 1);
            x.coding(c, 1, 5, 5, 7, false);
        }
        return x;
    }

    /** What a scan read is written again, an end of 256 components as 0. */
    private static void writeScanned() {
        Bytes main = new Bytes().main(1, 1).segment(95, 0, 255, 255, 255, 33, 0, 4);
        Counted x = new Bytes().add(main).barePart(0, 0, 0).end().feed(new Counted());
        Check.same("16 scan", x.scan(), 0);
        x.clear();
        x.write();
        checkBytes("16 again", x, main.toArray());
    }

    private static void writeRefused() {
        Counted x = scanned();
        x.plan();
        x.component(8, false, 1, 1);
        Check.refuses("16 no picture", STATE, x::write);
        x.plan();
        x.picture(0, 0, 1, 1);
        Check.refuses("16 no component", STATE, x::write);
        Check.same("16 still scanned", x.found(-1, 0), 1);
        x.component(8, false, 1, 1);
        x.write();
        Check.refuses("16 not scanned", STATE, () -> x.found(-1, 0));
    }

    private static Counted greatPlan() {
        Counted x = new Counted();
        x.picture(0, 0, 4, 4);
        for (int c = 0; c < 16; c++) {
            x.component(8, false, 1, 1);
            x.coding(c, 32, 6, 6, c, true);
            x.precincts(c, 32, 1, 1);
            x.steps(c, 2, c & 7, 1 + c);
            x.step(c, 96, c);
        }
        for (int n = 0; n < 32; n++) {
            x.change(0, 0, 1, 1, 1, 0);
        }
        return x;
    }

    private static void full() {
        Counted x = greatPlan();
        int once = 2 + 88 + 47 + 199 + 15 * 44 + 15 * 200 + 16 * 7 + 228;
        for (int n = 1; n <= 65536 / once; n++) {
            Check.same("16 great", x.write(), once);
        }
        int size = 65536 / once * once;
        Check.same("16 size", x.at(-1), size);
        Check.refuses("16 too many", FULL, x::write);
        Check.same("16 none put", x.at(-1), size);
        Check.refuses("16 no byte there", NONE, () -> x.at(size));
        x.plan();
        Check.refuses("16 state first", STATE, x::write);
        for (; x.at(-1) <= 65536 - 14;) {
            x.part(0, 0, 0, 0);
        }
        Check.refuses("17 full", FULL, () -> x.part(0, 0, 0, 0));
        Check.refuses("17 argument first", ARGUMENT, () -> x.part(-1, 0, 0, 0));
        for (int k = x.at(-1); k < 65535; k++) {
            Check.same("14 more", x.put(k & 255), k + 1);
        }
        Check.refuses("18 full", FULL, () -> x.mark(217));
        Check.refuses("18 argument first", ARGUMENT, () -> x.mark(256));
        Check.same("14 the last", x.put(77), 65536);
        Check.refuses("14 full", FULL, () -> x.put(0));
        Check.refuses("14 argument first", ARGUMENT, () -> x.put(256));
        Check.same("14 size", x.at(-1), 65536);
        Check.same("15 the last", x.at(65535), 77);
        Check.refuses("15 beyond", NONE, () -> x.at(65536));
        x.spoil(65535, 78);
        Check.same("19 the last", x.at(65535), 78);

        Counted y = greatPlan();
        for (int n = 1; n <= 65536 / once; n++) {
            y.write();
        }
        y.plan();
        y.picture(0, 0, 1, 1);
        y.component(8, false, 1, 1);
        for (; y.at(-1) <= 65536 - 65;) {
            Check.same("16 small", y.write(), 65);
        }
        for (; y.at(-1) > 65536 - 65 && y.at(-1) < 65534;) {
            y.put(0);
        }
        y.mark(217);
        Check.same("18 just full", y.at(-1), 65536);
        Check.refuses("16 full", FULL, y::write);
    }

    private static void part() {
        Counted x = scanned();
        int[][] bad = {{-1, 0, 0, 0}, {0, -1, 0, 0}, {0, 0, -1, 0}, {0, 0, 0, -1},
            {65536, 0, 0, 0}, {0, 256, 0, 0}, {0, 0, 256, 0}, {0, 0, 0, 65537}};
        for (int[] p : bad) {
            Check.refuses("17 part", ARGUMENT, () -> x.part(p[0], p[1], p[2], p[3]));
        }
        Check.same("17 still scanned", x.found(-1, 0), 1);
        x.part(0, 0, 0, 0);
        Check.refuses("17 not scanned", STATE, () -> x.found(-1, 0));
        x.clear();
        x.part(65535, 254, 255, 65536);
        x.part(258, 255, 0, 0);
        checkBytes("17", x, 255, 144, 0, 10, 255, 255, 0, 1, 0, 14, 254, 255, 255, 147,
                255, 144, 0, 10, 1, 2, 0, 0, 0, 14, 255, 0, 255, 147);
    }

    private static void mark() {
        Counted x = scanned();
        Check.refuses("18 -1", ARGUMENT, () -> x.mark(-1));
        Check.refuses("18 256", ARGUMENT, () -> x.mark(256));
        Check.same("18 still scanned", x.found(-1, 0), 1);
        x.mark(0);
        Check.refuses("18 not scanned", STATE, () -> x.found(-1, 0));
        x.clear();
        x.mark(0);
        x.mark(255);
        x.mark(79);
        checkBytes("18", x, 255, 0, 255, 255, 255, 79);
    }

    private static void spoil() {
        Counted x = scanned();
        int size = x.at(-1);
        Check.refuses("19 beyond", NONE, () -> x.spoil(size, 1));
        Check.refuses("19 -1", NONE, () -> x.spoil(-1, 1));
        Check.same("19 still scanned", x.found(-1, 0), 1);
        x.spoil(0, 255);
        Check.refuses("19 not scanned", STATE, () -> x.found(-1, 0));
        x.spoil(1, 256 + 79);
        Check.same("19 mod 256", x.at(1), 79);
        x.spoil(size - 1, -1);
        Check.same("19 -1", x.at(size - 1), 255);
        x.spoil(size - 1, -2147483648 + 217);
        Check.same("19 low bits", x.at(size - 1), 217);
        Check.same("19 size", x.at(-1), size);
        Check.same("19 whole again", x.scan(), 0);
    }
}
