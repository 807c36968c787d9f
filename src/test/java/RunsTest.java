import java.util.Arrays;
import java.util.Random;
import java.util.function.Consumer;
import java.util.function.ToIntFunction;

/** Runs of all calls of the face, each call made to the class and to a second reading of it. */
public final class RunsTest {
    private static final int RUNS = 1500;
    private static final int MOST = 2147483647;
    private static final int LEAST = -2147483648;
    /** What a run does, some of it more often. */
    private static final int KINDS = 24;
    /** Calls of one act, at most: a plan with all parts of its tiles. */
    private static final int ROOM = 120;
    private static final int[] MARKS = {0, 255, 48, 63, 79, 81, 82, 83, 85, 87, 88, 92, 93, 94, 95,
        96, 97, 99, 100, 144, 146, 147, 217};

    private final Random random;
    private final String name;
    private final Counted one = new Counted();
    private final Second other = new Second();
    private int number = 0;
    /** How often, in a thousand, a number is beside the values. */
    private final int odd;

    private RunsTest(int seed) {
        random = new Random(seed);
        name = "run " + seed;
        odd = seed % 4 == 0 ? 0 : seed % 4 == 1 ? 20 : 150;
    }

    public static void main(String[] args) {
        int[] seen = new int[8];
        for (int seed = 0; seed < RUNS; seed++) {
            new RunsTest(seed).run(seen);
        }
        System.out.println("numbers seen: " + Arrays.toString(seen));
        for (int n = 0; n < seen.length; n++) {
            Check.yes("number " + n + " was seen often", seen[n] > 20);
        }
        Check.end("RunsTest");
    }

    private void run(int[] seen) {
        for (int acts = 0; acts < 60 && one.callsLeft() > ROOM; acts++) {
            act(seen);
            if (oneIn(4)) {
                askSome();
            }
        }
        askAll();
    }

    private int below(int n) {
        return random.nextInt(n);
    }

    private boolean oneIn(int n) {
        return below(n) == 0;
    }

    /** A number from .. to, often an end; seldom the one beside an end, or a far one. */
    private int near(int from, int to) {
        if (below(1000) < odd) {
            int[] beside = {from - 1, to + 1, -1, 256, MOST, LEAST, from - 256};
            return beside[below(beside.length)];
        }
        return oneIn(4) ? from : oneIn(3) ? to : from + below(to - from + 1);
    }

    private int both(String what, ToIntFunction<Face> call) {
        number++;
        String due = outcome(other, call);
        String got = outcome(one, call);
        Check.sameText(name + ", call " + number + ", " + what, got, due);
        return due.matches("-?\\d+") ? Integer.parseInt(due) : 0;
    }

    private void bothDo(String what, Consumer<Face> call) {
        both(what, x -> {
            call.accept(x);
            return 0;
        });
    }

    private static String outcome(Face x, ToIntFunction<Face> call) {
        try {
            return String.valueOf(call.applyAsInt(x));
        } catch (RuntimeException e) {
            return "throws." + e.getClass().getSimpleName();
        }
    }

    private void act(int[] seen) {
        switch (below(KINDS)) {
            case 0: case 1: makePicture(); break;
            case 2: case 3: makeComponent(); break;
            case 4: makeGeneral(); break;
            case 5: case 6: makeCoding(); break;
            case 7: makePrecincts(); break;
            case 8: makeSteps(); break;
            case 9: case 10: makeStep(); break;
            case 11: makeChange(); break;
            case 12: putSome(); break;
            case 13: case 14: case 15: wholeStream(seen); break;
            case 16: case 17: case 18: spoilSome(seen); break;
            case 19: case 20: madeUpStream(seen); break;
            case 21: useSome(); break;
            case 22: scan(seen); break;
            default: emptySome(); break;
        }
    }

    private void makePicture() {
        int x0 = near(0, 40);
        int y0 = near(0, 40);
        int x1 = oneIn(5) ? MOST : near(30, 90);
        int y1 = oneIn(5) ? MOST : near(30, 90);
        bothDo("picture", x -> x.picture(x0, y0, x1, y1));
        int fromX = near(0, oneIn(2) ? 0 : 40);
        int fromY = near(0, oneIn(2) ? 0 : 40);
        int wide = oneIn(3) ? MOST : near(1, 60);
        int high = oneIn(3) ? MOST : near(1, 60);
        bothDo("tiles", x -> x.tiles(fromX, fromY, wide, high));
    }

    private void makeComponent() {
        int bits = near(1, 38);
        int dx = near(1, 255);
        int dy = near(1, 255);
        boolean signed = oneIn(2);
        int times = oneIn(20) ? 16 : 1;
        for (int n = 0; n < times; n++) {
            both("component", x -> x.component(bits, signed, dx, dy));
        }
    }

    private void makeGeneral() {
        int order = near(0, 4);
        int layers = near(1, 255);
        int flags = below(8);
        bothDo("general", x -> x.general(order, layers, flags % 2 == 1, flags / 2 % 2 == 1,
                flags / 4 == 1));
    }

    private int someComponent() {
        return near(0, Math.max(0, other.get(8, 0, 0) - 1));
    }

    private void makeCoding() {
        int c = someComponent();
        int levels = oneIn(3) ? near(0, 32) : near(0, 2);
        int bw = near(2, oneIn(2) ? 6 : 10);
        int bh = near(2, oneIn(2) ? 6 : 10);
        int style = near(0, 63);
        boolean exact = oneIn(2);
        bothDo("coding", x -> x.coding(c, levels, bw, bh, style, exact));
    }

    private void makePrecincts() {
        int c = someComponent();
        int r = oneIn(3) ? near(0, 32) : near(0, 2);
        int pw = near(oneIn(8) ? 0 : 1, 15);
        int ph = near(oneIn(8) ? 0 : 1, 15);
        bothDo("precincts", x -> x.precincts(c, r, pw, ph));
    }

    private void makeSteps() {
        int c = someComponent();
        int kind = near(0, 2);
        int guard = near(0, 7);
        int shift = oneIn(2) ? 0 : near(0, 37);
        bothDo("steps", x -> x.steps(c, kind, guard, shift));
    }

    private void makeStep() {
        int c = someComponent();
        int k = oneIn(3) ? near(0, 96) : near(0, 6);
        int value = oneIn(2) ? near(0, 65535) : near(255, 512);
        bothDo("step", x -> x.step(c, k, value));
    }

    private void makeChange() {
        int level = near(0, 32);
        int component = near(0, 15);
        int levelEnd = oneIn(2) ? 33 : level + near(1, 1);
        int componentEnd = oneIn(2) ? 16 : component + near(1, 1);
        int layerEnd = near(1, 255);
        int order = near(0, 4);
        int times = oneIn(20) ? 33 : 1;
        for (int n = 0; n < times; n++) {
            both("change", x -> x.change(level, component, layerEnd, levelEnd, componentEnd,
                    order));
        }
    }

    private void putSome() {
        int b = near(0, 255);
        both("put", x -> x.put(b));
        int m = oneIn(8) ? near(0, 255) : MARKS[below(MARKS.length)];
        bothDo("mark", x -> x.mark(m));
        int tile = oneIn(2) ? near(0, 65535) : near(0, 2);
        int parts = near(0, 255);
        int bytes = near(0, oneIn(2) ? 3 : 65536);
        int part = parts / 2;
        bothDo("part", x -> x.part(tile, part, parts, bytes));
    }

    /** The plan written, some parts, END, and a scan of it. */
    private void wholeStream(int[] seen) {
        if (!oneIn(10)) {
            bothDo("clear", Face::clear);
        }
        both("write", Face::write);
        int tiles = Math.min(64, tilesOfPlan());
        int parts = below(2);
        boolean forward = oneIn(2);
        for (int t = 0; t < tiles; t++) {
            putPart(forward ? t : tiles - 1 - t, parts);
        }
        if (oneIn(4)) {
            int m = MARKS[below(MARKS.length)];
            bothDo("mark", x -> x.mark(m));
        }
        bothDo("END", x -> x.mark(217));
        scan(seen);
    }

    private int tilesOfPlan() {
        int[] n = new int[8];
        for (int what = 0; what < 8; what++) {
            n[what] = other.get(what, 0, 0);
        }
        if (n[6] == 0) {
            return 1;
        }
        return (int) (((n[2] - 1L - n[4]) / n[6] + 1) * ((n[3] - 1L - n[5]) / n[7] + 1));
    }

    private void putPart(int tile, int parts) {
        int bytes = oneIn(4) ? below(3) : 0;
        bothDo("part", x -> x.part(tile, 0, parts, bytes));
        for (int n = 0; n < bytes; n++) {
            both("put", x -> x.put(255));
        }
    }

    private void spoilSome(int[] seen) {
        int size = other.at(-1);
        for (int n = below(3); n >= 0; n--) {
            int k = oneIn(30) ? near(0, size) : below(Math.max(1, size));
            int b = oneIn(3) ? MARKS[below(MARKS.length)] : oneIn(2) ? below(4) : random.nextInt();
            int old = size > 0 && k >= 0 && k < size ? other.at(k) : 0;
            bothDo("spoil", x -> x.spoil(k, b));
            if (oneIn(2)) {
                scan(seen);
                bothDo("spoil", x -> x.spoil(k, old));
            }
        }
        scan(seen);
    }

    private void scan(int[] seen) {
        seen[both("scan", Face::scan)]++;
        both("place", Face::place);
    }

    private void madeUpStream(int[] seen) {
        Bytes stream = MadeUp.stream(random.nextLong());
        if (stream.calls() + ROOM < one.callsLeft()) {
            bothDo("bytes", stream::feed);
            scan(seen);
            useSome();
        }
    }

    private void useSome() {
        for (int n = 0; n < 3; n++) {
            int tile = near(0, 3);
            both("use", x -> x.use(tile));
        }
    }

    private void emptySome() {
        if (oneIn(2)) {
            bothDo("plan", Face::plan);
        } else {
            bothDo("clear", Face::clear);
        }
    }

    private void askSome() {
        for (int n = 0; n < 5; n++) {
            int what = near(0, 45);
            int a = near(0, 3);
            int b = near(0, 96);
            both("get", x -> x.get(what, a, b));
            both("at", x -> x.at(3 * b));
            both("head", x -> x.head(a, b));
            int asked = near(0, 4);
            both("found", x -> x.found(a, asked));
        }
        both("found", x -> x.found(-1, 0));
        both("place", Face::place);
    }

    private void askAll() {
        both("place", Face::place);
        for (int w = 0; w <= 14; w++) {
            int what = w;
            both("get", x -> x.get(what, 0, 0));
        }
        for (int c = 0; c < other.get(8, 0, 0); c++) {
            askComponent(c);
        }
        for (int k = 0; k < 6 * other.get(14, 0, 0); k++) {
            int i = k;
            both("get", x -> x.get(40 + i % 6, i / 6, 0));
        }
        int size = both("at", x -> x.at(-1));
        for (int k = 0; k <= size; k += size > 1000 ? 37 : 1) {
            int i = k;
            both("at", x -> x.at(i));
        }
        int parts = both("found", x -> x.found(-1, 0));
        for (int k = 0; k < 5 * parts; k++) {
            int i = k;
            both("found", x -> x.found(i / 5, i % 5));
        }
        for (int t = 0; t < 4; t++) {
            int tile = t;
            int heads = both("use", x -> x.use(tile));
            both("no head", x -> x.head(tile, heads));
        }
    }

    private void askComponent(int c) {
        for (int k = 0; k < 12 + 66 + 97; k++) {
            int what = k < 12 ? 20 + k : k < 45 ? 32 : k < 78 ? 33 : 34;
            int b = k < 12 ? 0 : k < 45 ? k - 12 : k < 78 ? k - 45 : k - 78;
            both("get", x -> x.get(what, c, b));
        }
    }
}
