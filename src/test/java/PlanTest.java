import java.util.NoSuchElementException;

/** Promises 1 to 12: the plan. */
public final class PlanTest {
    private static final Class<IllegalArgumentException> ARGUMENT = IllegalArgumentException.class;
    private static final Class<IllegalStateException> STATE = IllegalStateException.class;
    private static final Class<NoSuchElementException> NONE = NoSuchElementException.class;
    private static final int MOST = 2147483647;
    private static final int LEAST = -2147483648;

    public static void main(String[] args) {
        newObject();
        plan();
        picture();
        tiles();
        component();
        general();
        coding();
        precincts();
        steps();
        step();
        change();
        get();
        Check.end("PlanTest");
    }

    private static void newObject() {
        Counted x = new Counted();
        checkEmpty("1 new", x);
        Check.same("1 place()", x.place(), -1);
        Check.same("1 at(-1)", x.at(-1), 0);
        Check.refuses("1 found", STATE, () -> x.found(-1, 0));
        Check.refuses("1 use", STATE, () -> x.use(0));
        Check.refuses("1 head", STATE, () -> x.head(0, 0));
        Check.refuses("1 write", STATE, x::write);
    }

    private static void checkEmpty(String when, Counted x) {
        for (int what = 0; what <= 14; what++) {
            Check.same(when + " get(" + what + ")", x.get(what, 0, 0), what == 10 ? 1 : 0);
        }
        Check.refuses(when + " component 0", NONE, () -> x.get(20, 0, 0));
        Check.refuses(when + " change 0", NONE, () -> x.get(40, 0, 0));
    }

    private static void plan() {
        Counted x = new Counted();
        x.picture(1, 2, 30, 40);
        x.component(8, true, 1, 2);
        x.coding(0, 5, 4, 4, 3, false);
        x.precincts(0, 3, 4, 5);
        x.steps(0, 2, 1, 9);
        x.step(0, 96, 5);
        x.general(4, 9, true, true, true);
        x.change(0, 0, 1, 1, 1, 1);
        x.put(200);
        x.plan();
        checkEmpty("2 plan", x);
        Check.same("2 the stream stays", x.at(0), 200);
        Check.refuses("2 no picture", STATE, () -> x.tiles(0, 0, 1, 1));
        x.component(1, false, 1, 1);
        checkNewComponent("2 component after plan", x, 0);

        Counted y = new Bytes().main(1, 1).barePart(0, 0, 1).end().feed(new Counted());
        y.scan();
        y.plan();
        checkEmpty("2 plan after scan", y);
        Check.same("2 the stream is still scanned", y.found(-1, 0), 1);
    }

    private static void picture() {
        Counted x = new Counted();
        int[][] bad = {{-1, 0, 1, 1}, {0, -1, 1, 1}, {1, 0, 1, 1}, {0, 1, 1, 1}, {2, 0, 1, 1},
            {0, 0, 0, 1}, {0, 0, 1, 0}, {LEAST, 0, 1, 1}, {0, 0, -5, 7}, {0, 5, 9, 4}};
        for (int[] p : bad) {
            Check.refuses("3 picture", ARGUMENT, () -> x.picture(p[0], p[1], p[2], p[3]));
        }
        checkEmpty("3 refused pictures", x);
        x.picture(3, 4, 5, 6);
        checkArea("3 picture", x, 3, 4, 5, 6, 0, 0, 5, 6);
        x.tiles(2, 2, 2, 3);
        x.picture(MOST - 1, MOST - 1, MOST, MOST);
        checkArea("3 greatest", x, MOST - 1, MOST - 1, MOST, MOST, 0, 0, MOST, MOST);
        Check.refuses("3 refused", ARGUMENT, () -> x.picture(9, 9, 9, 10));
        checkArea("3 stays", x, MOST - 1, MOST - 1, MOST, MOST, 0, 0, MOST, MOST);
    }

    private static void checkArea(String when, Counted x, int... due) {
        for (int what = 0; what < due.length; what++) {
            Check.same(when + " get(" + what + ")", x.get(what, 7, -3), due[what]);
        }
    }

    private static void tiles() {
        Counted x = new Counted();
        Check.refuses("4 no picture", STATE, () -> x.tiles(-1, 0, 0, 0));
        x.picture(10, 20, 40, 60);
        int[][] bad = {{-1, 0, 100, 100}, {0, -1, 100, 100}, {11, 0, 100, 100}, {0, 21, 100, 100},
            {0, 0, 10, 100}, {0, 0, 100, 20}, {0, 0, 0, 100}, {0, 0, 100, 0}, {0, 0, -1, 100},
            {10, 20, 3, 5}, {10, 20, 1, 19}, {LEAST, LEAST, MOST, MOST}};
        for (int[] t : bad) {
            Check.refuses("4 tiles " + t[0] + " " + t[1] + " " + t[2] + " " + t[3], ARGUMENT,
                    () -> x.tiles(t[0], t[1], t[2], t[3]));
        }
        checkArea("4 stays", x, 10, 20, 40, 60, 0, 0, 40, 60);
        x.tiles(10, 20, 1, 40);
        checkArea("4 narrow", x, 10, 20, 40, 60, 10, 20, 1, 40);
        x.tiles(0, 0, 11, 21);
        checkArea("4 just touching", x, 10, 20, 40, 60, 0, 0, 11, 21);
        x.tiles(10, 20, MOST, MOST);
        checkArea("4 widest", x, 10, 20, 40, 60, 10, 20, MOST, MOST);

        Counted y = new Counted();
        y.picture(0, 0, 64, 1);
        y.tiles(0, 0, 1, 1);
        Check.same("4 64 tiles", y.get(6, 0, 0), 1);
        y.picture(0, 0, 65, 1);
        Check.refuses("4 65 tiles", ARGUMENT, () -> y.tiles(0, 0, 1, 1));
        y.picture(0, 0, 8, 8);
        y.tiles(0, 0, 1, 1);
        y.picture(0, 0, 8, 9);
        Check.refuses("4 8 by 9 tiles", ARGUMENT, () -> y.tiles(0, 0, 1, 1));
        y.picture(0, 0, MOST, MOST);
        Check.refuses("4 very many tiles", ARGUMENT, () -> y.tiles(0, 0, 1, 1));
        Check.refuses("4 2^32 tiles", ARGUMENT, () -> y.tiles(0, 0, 32768, 32768));
    }

    private static void component() {
        Counted x = new Counted();
        int[][] bad = {{0, 1, 1}, {39, 1, 1}, {-1, 1, 1}, {8, 0, 1}, {8, 1, 0}, {8, 256, 1},
            {8, 1, 256}, {8, -1, 1}, {8, 1, -1}, {MOST, 1, 1}};
        for (int[] c : bad) {
            Check.refuses("5 component", ARGUMENT, () -> x.component(c[0], true, c[1], c[2]));
        }
        Check.same("5 none yet", x.get(8, 0, 0), 0);
        Check.same("5 the first", x.component(1, false, 1, 255), 0);
        Check.same("5 the second", x.component(38, true, 255, 1), 1);
        checkNewComponent("5 first", x, 0);
        checkNewComponent("5 second", x, 1);
        int[] due = {1, 0, 1, 255, 38, 1, 255, 1};
        for (int i = 0; i < 8; i++) {
            Check.same("5 numbers " + i, x.get(20 + i % 4, i / 4, 0), due[i]);
        }
        for (int c = 2; c < 16; c++) {
            Check.same("5 the next", x.component(8, false, 1, 1), c);
        }
        Check.refuses("5 a 17th", STATE, () -> x.component(8, false, 1, 1));
        Check.refuses("5 a wrong 17th", ARGUMENT, () -> x.component(0, false, 1, 1));
        Check.same("5 16 of them", x.get(8, 0, 0), 16);
    }

    private static void checkNewComponent(String when, Counted x, int c) {
        int[] due = {0, 6, 6, 0, 1, 0, 2, 0};
        for (int i = 0; i < due.length; i++) {
            Check.same(when + " get(" + (24 + i) + ")", x.get(24 + i, c, 0), due[i]);
        }
        for (int r = 0; r <= 32; r++) {
            Check.same(when + " pw", x.get(32, c, r), 15);
            Check.same(when + " ph", x.get(33, c, r), 15);
        }
        for (int k = 0; k <= 96; k++) {
            Check.same(when + " value", x.get(34, c, k), 0);
        }
    }

    private static void general() {
        Counted x = new Counted();
        x.general(4, 255, true, false, true);
        int[] due = {4, 255, 1, 0, 1};
        int[][] bad = {{-1, 1}, {5, 1}, {0, 0}, {0, -1}, {0, 256}, {MOST, MOST}};
        for (int[] g : bad) {
            Check.refuses("6 general", ARGUMENT, () -> x.general(g[0], g[1], false, true, false));
        }
        for (int i = 0; i < 5; i++) {
            Check.same("6 get " + i, x.get(9 + i, 0, 0), due[i]);
        }
        x.general(0, 1, false, true, false);
        int[] then = {0, 1, 0, 1, 0};
        for (int i = 0; i < 5; i++) {
            Check.same("6 then get " + i, x.get(9 + i, 0, 0), then[i]);
        }
    }

    private static void coding() {
        Counted x = new Counted();
        Check.refuses("7 no component", NONE, () -> x.coding(0, 99, 6, 6, 0, true));
        x.component(8, false, 1, 1);
        x.precincts(0, 2, 3, 4);
        x.steps(0, 2, 5, 6);
        x.step(0, 1, 77);
        int[][] bad = {{-1, 6, 6, 0}, {33, 6, 6, 0}, {0, 1, 6, 0}, {0, 6, 1, 0}, {0, 11, 2, 0},
            {0, 2, 11, 0}, {0, 7, 6, 0}, {0, 10, 3, 0}, {0, 6, 6, 64}, {0, 6, 6, -1},
            {0, MOST, MOST, 0}};
        for (int[] c : bad) {
            Check.refuses("7 coding", ARGUMENT,
                    () -> x.coding(0, c[0], c[1], c[2], c[3], false));
        }
        Check.refuses("7 component 1", NONE, () -> x.coding(1, 0, 6, 6, 0, true));
        Check.refuses("7 component -1", NONE, () -> x.coding(-1, 0, 6, 6, 0, true));
        checkNumbers("7 stays", x, 24, 0, 6, 6, 0, 1, 2, 5, 6);
        x.coding(0, 32, 10, 2, 63, false);
        checkNumbers("7 coding", x, 24, 32, 10, 2, 63, 0, 2, 5, 6);
        x.coding(0, 0, 2, 10, 0, true);
        checkNumbers("7 coding", x, 24, 0, 2, 10, 0, 1, 2, 5, 6);
        Check.same("7 pw stays", x.get(32, 0, 2), 3);
        Check.same("7 value stays", x.get(34, 0, 1), 77);
    }

    private static void checkNumbers(String when, Counted x, int from, int... due) {
        for (int i = 0; i < due.length; i++) {
            Check.same(when + " get(" + (from + i) + ")", x.get(from + i, 0, 0), due[i]);
        }
    }

    private static void precincts() {
        Counted x = new Counted();
        Check.refuses("8 no component", NONE, () -> x.precincts(0, -1, 0, 0));
        x.component(8, false, 1, 1);
        int[][] bad = {{-1, 5, 5}, {33, 5, 5}, {0, -1, 5}, {0, 5, -1}, {0, 16, 5}, {0, 5, 16},
            {1, 0, 5}, {1, 5, 0}, {32, 0, 0}};
        for (int[] p : bad) {
            Check.refuses("8 precincts", ARGUMENT, () -> x.precincts(0, p[0], p[1], p[2]));
        }
        checkNewComponent("8 stays", x, 0);
        x.precincts(0, 0, 0, 15);
        x.precincts(0, 32, 1, 2);
        Check.same("8 pw 0", x.get(32, 0, 0), 0);
        Check.same("8 ph 0", x.get(33, 0, 0), 15);
        Check.same("8 pw 32", x.get(32, 0, 32), 1);
        Check.same("8 ph 32", x.get(33, 0, 32), 2);
        Check.same("8 pw 31", x.get(32, 0, 31), 15);
        Check.same("8 levels", x.get(24, 0, 0), 0);
    }

    private static void steps() {
        Counted x = new Counted();
        Check.refuses("9 no component", NONE, () -> x.steps(0, 9, 9, 99));
        x.component(8, false, 1, 1);
        x.step(0, 5, 500);
        int[][] bad = {{-1, 0, 0}, {3, 0, 0}, {0, -1, 0}, {0, 8, 0}, {0, 0, -1}, {0, 0, 38}};
        for (int[] s : bad) {
            Check.refuses("9 steps", ARGUMENT, () -> x.steps(0, s[0], s[1], s[2]));
        }
        checkNumbers("9 stays", x, 29, 0, 2, 0);
        x.steps(0, 2, 7, 37);
        checkNumbers("9 steps", x, 29, 2, 7, 37);
        x.steps(0, 1, 0, 0);
        checkNumbers("9 steps", x, 29, 1, 0, 0);
        Check.same("9 value stays", x.get(34, 0, 5), 500);
    }

    private static void step() {
        Counted x = new Counted();
        Check.refuses("10 no component", NONE, () -> x.step(0, -1, -1));
        x.component(8, false, 1, 1);
        int[][] bad = {{-1, 0}, {97, 0}, {0, -1}, {0, 65536}, {MOST, 0}};
        for (int[] s : bad) {
            Check.refuses("10 step", ARGUMENT, () -> x.step(0, s[0], s[1]));
        }
        checkNewComponent("10 stays", x, 0);
        x.step(0, 0, 65535);
        x.step(0, 96, 1);
        Check.same("10 value 0", x.get(34, 0, 0), 65535);
        Check.same("10 value 96", x.get(34, 0, 96), 1);
        Check.refuses("10 component 1", NONE, () -> x.step(1, 0, 0));
    }

    private static void change() {
        Counted x = new Counted();
        int[][] bad = {{-1, 0, 1, 1, 1, 0}, {0, -1, 1, 1, 1, 0}, {0, 0, 0, 1, 1, 0},
            {0, 0, 256, 1, 1, 0}, {0, 0, 1, 0, 1, 0}, {3, 0, 1, 3, 1, 0}, {0, 0, 1, 34, 1, 0},
            {33, 0, 1, 33, 1, 0}, {0, 0, 1, 1, 0, 0}, {0, 0, 1, 1, 17, 0}, {0, 0, 1, 1, 256, 0},
            {0, 5, 1, 1, 5, 0}, {0, 16, 1, 1, 17, 0}, {0, 0, 1, 1, 1, 5}, {0, 0, 1, 1, 1, -1},
            {0, 0, 1, 1, -1, 0}};
        for (int[] c : bad) {
            Check.refuses("11 change", ARGUMENT,
                    () -> x.change(c[0], c[1], c[2], c[3], c[4], c[5]));
        }
        Check.same("11 none yet", x.get(14, 0, 0), 0);
        Check.same("11 one", x.change(32, 15, 255, 33, 16, 4), 1);
        Check.same("11 two", x.change(0, 0, 1, 1, 1, 0), 2);
        int[] due = {32, 15, 255, 33, 16, 4};
        for (int i = 0; i < 6; i++) {
            Check.same("11 get " + i, x.get(40 + i, 0, 0), due[i]);
        }
        for (int n = 3; n <= 32; n++) {
            Check.same("11 more", x.change(1, 2, 3, 4, 5, 1), n);
        }
        Check.refuses("11 a 33rd", STATE, () -> x.change(1, 2, 3, 4, 5, 1));
        Check.refuses("11 a wrong 33rd", ARGUMENT, () -> x.change(1, 2, 3, 4, 5, 9));
        Check.same("11 32 of them", x.get(14, 0, 0), 32);
        Check.same("11 the last", x.get(43, 31, 0), 4);
    }

    private static void get() {
        Counted x = new Counted();
        x.component(8, true, 2, 3);
        x.change(1, 2, 3, 4, 5, 2);
        int[] none = {-1, 15, 16, 19, 35, 39, 46, LEAST, MOST};
        for (int what : none) {
            Check.refuses("12 get " + what, NONE, () -> x.get(what, 0, 0));
        }
        for (int what = 20; what <= 34; what++) {
            int w = what;
            Check.refuses("12 component 1", NONE, () -> x.get(w, 1, 0));
            Check.refuses("12 component -1", NONE, () -> x.get(w, -1, 0));
            x.get(w, 0, 0);
        }
        for (int what = 40; what <= 45; what++) {
            int w = what;
            Check.refuses("12 change 1", NONE, () -> x.get(w, 1, 0));
            Check.refuses("12 change -1", NONE, () -> x.get(w, -1, 0));
            Check.same("12 change 0", x.get(w, 0, 99), w == 45 ? 2 : w - 39);
        }
        int[][] outside = {{32, 33}, {33, 33}, {34, 97}, {32, -1}, {33, -1}, {34, -1}};
        for (int[] o : outside) {
            Check.refuses("12 outside", NONE, () -> x.get(o[0], 0, o[1]));
        }
        Check.same("12 b does not matter", x.get(22, 0, -9), 2);
        Check.same("12 level above", x.get(33, 0, 32), 15);
        Check.same("12 value above", x.get(34, 0, 96), 0);
    }
}
