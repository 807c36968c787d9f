import java.util.ArrayList;
import java.util.Arrays;
import java.util.List;
import java.util.Random;

/** Streams and plans by the thousand, each against a second reading of the document. */
public final class ModelTest {
    private static final int STREAMS = 60000;
    private static final int PLANS = 4000;
    private static final int[] ANY_MARK = {0, 255, 48, 63, 79, 81, 82, 83, 85, 87, 88, 92, 93, 94,
        95, 96, 97, 99, 100, 144, 146, 147, 217, 7};

    private final Random random;
    /** How often, in a thousand, a number is a wrong one. */
    private int spoiled;
    private int components;

    private ModelTest(long seed) {
        random = new Random(seed);
    }

    public static void main(String[] args) {
        int[] seen = new int[8];
        StreamMarks one = new StreamMarks();
        for (int n = 0; n < STREAMS; n++) {
            ModelTest test = new ModelTest(n);
            int[] stream = test.stream();
            // The same object now and then, so that nothing of an earlier scan may stay.
            StreamMarks x = n % 2 == 0 ? one : new StreamMarks();
            seen[compare("stream " + n, x, stream)]++;
        }
        System.out.println("numbers seen: " + Arrays.toString(seen));
        for (int number = 0; number < 8; number++) {
            Check.yes("number " + number + " was seen often", seen[number] > 100);
        }
        for (int n = 0; n < PLANS; n++) {
            new ModelTest(n).roundTrip("plan " + n);
        }
        Check.end("ModelTest");
    }

    private static int compare(String when, StreamMarks x, int[] stream) {
        x.clear();
        for (int b : stream) {
            x.put(b);
        }
        Model model = new Model(stream);
        int[] before = allOf(x);
        Check.same(when + " scan()", x.scan(), model.number);
        Check.same(when + " place()", x.place(), model.place);
        if (model.number != 0) {
            Check.yes(when + " the plan stays", Arrays.equals(before, allOf(x)));
            return model.number;
        }
        Check.yes(when + " main plan", Arrays.equals(allOf(x), model.plan(-1)));
        Check.same(when + " found(-1)", x.found(-1, 0), model.parts.size());
        for (int k = 0; k < model.parts.size(); k++) {
            for (int what = 0; what < 5; what++) {
                Check.same(when + " found", x.found(k, what), model.parts.get(k)[what]);
            }
        }
        for (int tile = 0; tile < model.tileCount; tile++) {
            int[] heads = model.heads(tile);
            Check.same(when + " use", x.use(tile), heads.length);
            Check.yes(when + " plan of a tile", Arrays.equals(allOf(x), model.plan(tile)));
            for (int i = 0; i < heads.length; i++) {
                Check.same(when + " head", x.head(tile, i), heads[i]);
            }
        }
        return 0;
    }

    /** All that get() answers, in the order of Model.plan(). */
    private static int[] allOf(StreamMarks x) {
        List<Integer> all = new ArrayList<>();
        for (int what = 0; what < 15; what++) {
            all.add(x.get(what, 0, 0));
        }
        for (int c = 0; c < x.get(8, 0, 0); c++) {
            for (int what = 20; what < 32; what++) {
                all.add(x.get(what, c, 0));
            }
            for (int r = 0; r < 66; r++) {
                all.add(x.get(32 + r / 33, c, r % 33));
            }
            for (int k = 0; k < 97; k++) {
                all.add(x.get(34, c, k));
            }
        }
        for (int a = 0; a < x.get(14, 0, 0); a++) {
            for (int what = 40; what < 46; what++) {
                all.add(x.get(what, a, 0));
            }
        }
        return Model.toArray(all);
    }

    private int below(int n) {
        return random.nextInt(n);
    }

    private boolean oneIn(int n) {
        return below(n) == 0;
    }

    /** A number from .. to, or, seldom, some byte. */
    private int number(int from, int to) {
        return below(1000) < spoiled ? below(256) : from + below(to - from + 1);
    }

    private int[] stream() {
        spoiled = oneIn(2) ? 0 : oneIn(2) ? 5 : 40;
        components = oneIn(30) ? 17 : oneIn(20) ? 16 : 1 + below(3);
        int across = 1 + below(3);
        int down = oneIn(40) ? 65 : 1 + below(2);
        Bytes x = new Bytes().mark(number(79, 79)).add(size(across, down));
        boolean packed = oneIn(3);
        List<Bytes> main = new ArrayList<>();
        for (int mark : new int[] {82, 92, 83, 93, 94, 95, 83, 94, 100, 99}) {
            if (mark == 82 || mark == 92 ? !oneIn(40) : oneIn(3)) {
                main.add(segment(mark, 0));
            }
            if (below(1000) < spoiled) {
                main.add(segment(ANY_MARK[below(ANY_MARK.length)], 0));
            }
        }
        for (Bytes segment : shuffled(main)) {
            x.add(segment);
        }
        for (int n = 0; packed && n < 1 + below(3); n++) {
            x.add(segment(96, n));
        }
        addParts(x, across * down, packed);
        x.mark(number(217, 217));
        return spoil(x);
    }

    private List<Bytes> shuffled(List<Bytes> row) {
        java.util.Collections.shuffle(row, random);
        return row;
    }

    private Bytes size(int across, int down) {
        Bytes x = new Bytes().mark(81).u2(38 + 3 * components).u2(below(65536));
        int wide = 1 + below(1 << below(20));
        int high = 1 + below(1 << below(20));
        int fromX = below(1 << below(20));
        int fromY = below(1 << below(20));
        long[] u4 = {(long) fromX + (long) wide * across - below(across == 1 ? 1 : wide),
            (long) fromY + (long) high * down - below(down == 1 ? 1 : high),
            fromX + below(across == 1 ? wide : wide), fromY + below(high), wide, high, fromX,
            fromY};
        for (long n : u4) {
            boolean odd = below(2000) < spoiled;
            x.u4(odd ? oneIn(2) ? 0 : random.nextInt() : n);
        }
        x.u2(below(2000) < spoiled ? below(20) : components);
        for (int c = 0; c < components; c++) {
            x.u1(number(0, 37) + (oneIn(2) ? 128 : 0), number(1, 255), number(1, 255));
        }
        return x;
    }

    private int[] body(boolean told) {
        int levels = oneIn(10) ? below(34) : below(4);
        int[] b = new int[5 + (told ? levels + 1 : 0)];
        b[0] = number(levels, levels);
        b[1] = number(0, 4);
        b[2] = number(0, 4);
        b[3] = number(0, 63);
        b[4] = number(0, 1);
        for (int r = 0; r + 5 < b.length; r++) {
            b[5 + r] = number(r == 0 ? 0 : 1, 15) + 16 * (r == 0 ? below(16) : number(1, 15));
        }
        return b;
    }

    private Bytes segment(int mark, int n) {
        Bytes b = new Bytes();
        boolean told = oneIn(2);
        switch (mark) {
            case 82:
                b.u1(number(0, 3) * 2 + (told ? 1 : 0), number(0, 4));
                b.u2(oneIn(50) ? 250 + below(10) : number(1, 255)).u1(number(0, 1)).u1(body(told));
                break;
            case 83:
                b.u1(number(0, components - 1), number(0, 0) * 2 + (told ? 1 : 0)).u1(body(told));
                break;
            case 92:
                b.u1(steps());
                break;
            case 93:
                b.u1(number(0, components - 1)).u1(steps());
                break;
            case 94:
                b.u1(number(0, components - 1), number(0, 0), number(0, 37));
                break;
            case 95:
                addChanges(b);
                break;
            case 96:
                b.u1(number(n, n)).u1(packedBytes());
                break;
            case 97:
                b.u1(number(n, n)).u1(bytes(below(4)));
                break;
            default:
                b.u1(bytes(below(6)));
                break;
        }
        boolean bare = mark >= 48 && mark <= 63 || mark == 79 || mark == 146 || mark == 147
                || mark == 217;
        Bytes x = new Bytes().mark(mark);
        int odd = below(1000) < spoiled ? below(5) - 2 : 0;
        return bare ? x : x.u2(2 + b.size() + odd).add(b);
    }

    private void addChanges(Bytes b) {
        int count = oneIn(20) ? 30 + below(5) : below(3);
        for (int i = 0; i < count; i++) {
            int level = below(33);
            int component = below(256);
            int end = component + 1 + below(256 - component);
            b.u1(number(level, level), number(component, component));
            b.u2(number(1, 65535)).u1(number(level + 1, 33), number(end, end), number(0, 4));
        }
    }

    private int[] steps() {
        int kind = number(0, 2) & 31;
        int count = kind == 1 ? 1 : 1 + 3 * (oneIn(10) ? below(34) : below(4));
        int bytes = kind == 0 ? count : 2 * count;
        int[] row = bytes(1 + bytes + (below(1000) < spoiled ? 1 : 0));
        row[0] = kind + 32 * below(8);
        return row;
    }

    private int[] bytes(int count) {
        int[] row = new int[count];
        for (int i = 0; i < count; i++) {
            row[i] = oneIn(6) ? 255 : below(256);
        }
        return row;
    }

    private int[] packedBytes() {
        Bytes b = new Bytes();
        for (int i = 0; i < below(4); i++) {
            int n = below(4);
            b.u4(oneIn(10) ? random.nextInt() : n).u1(bytes(n));
        }
        return b.cutTo(oneIn(3) ? below(12) : 99).toArray();
    }

    private void addParts(Bytes x, int tiles, boolean packed) {
        int many = oneIn(400) ? 260 : tiles + below(4);
        int[] had = new int[tiles];
        int[] heads = new int[tiles];
        int[] order = new int[many];
        int[] total = new int[tiles];
        for (int k = 0; k < many; k++) {
            order[k] = k < tiles && !oneIn(100) ? k : below(tiles);
            total[order[k]]++;
        }
        boolean tells = oneIn(2);
        for (int k = 0; k < many; k++) {
            int t = order[k];
            Bytes header = new Bytes();
            for (int n = 0; n < below(5); n++) {
                int[] may = {82, 83, 92, 93, 94, 95, 83, 94};
                boolean ofPlan = had[t] == 0 && oneIn(2);
                int mark = ofPlan ? may[below(may.length)] : oneIn(3) && !packed ? 97
                        : 48 + below(16);
                header.add(segment(below(500) < spoiled ? ANY_MARK[below(ANY_MARK.length)] : mark,
                        heads[t]));
                heads[t] += mark == 97 ? 1 : 0;
            }
            header.mark(number(147, 147));
            int[] data = bytes(below(4));
            int span = 12 + header.size() + data.length;
            boolean last = k == many - 1;
            int told = tells && oneIn(2) ? Math.min(total[t], 255) : 0;
            x.part(number(t, t), last && oneIn(3) ? 0 : below(1500) < spoiled ? below(60) : span,
                    number(had[t], had[t]), number(told, told));
            x.add(header).u1(data);
            had[t]++;
        }
    }

    private int[] spoil(Bytes x) {
        if (oneIn(3)) {
            for (int n = 0; n <= below(3); n++) {
                x.set(below(x.size()), oneIn(4) ? ANY_MARK[below(ANY_MARK.length)] : below(256));
            }
        }
        if (oneIn(10)) {
            x.cutTo(below(x.size() + 1));
        }
        if (oneIn(10)) {
            x.u1(bytes(below(3)));
        }
        return x.toArray();
    }

    /** A plan of the calls, written, scanned and compared; the bytes are judged by the model. */
    private void roundTrip(String when) {
        StreamMarks x = new StreamMarks();
        int count = 1 + below(4);
        x.picture(below(9), below(9), 9 + below(99), 9 + below(99));
        int levels = below(5);
        int kind = below(3);
        for (int c = 0; c < count; c++) {
            x.component(1 + below(38), oneIn(2), 1 + below(255), 1 + below(255));
            x.coding(c, oneIn(3) ? below(33) : levels, 5, 5, 3, oneIn(5));
            x.steps(c, oneIn(3) ? below(3) : kind, 2, oneIn(3) ? below(38) : 0);
            for (int n = below(4); n > 0; n--) {
                x.step(c, oneIn(3) ? below(97) : below(4), oneIn(2) ? below(600) : below(65536));
                x.precincts(c, oneIn(2) ? below(33) : below(3), oneIn(2) ? 15 : 1 + below(15), 15);
            }
        }
        x.general(below(5), 1 + below(255), oneIn(2), oneIn(2), oneIn(2));
        for (int n = below(3); n > 0; n--) {
            x.change(below(9), below(4), 1 + below(255), 9 + below(25), 4 + below(13), below(5));
        }
        int[] due = asRead(allOf(x), count);
        int bytes = x.write();
        Check.same(when + " size", x.at(-1), bytes);
        Check.same(when + " least size", bytes, leastSize(x, count));
        x.part(0, 0, 1, 0);
        x.mark(217);
        x.plan();
        int[] stream = new int[x.at(-1)];
        for (int k = 0; k < stream.length; k++) {
            stream[k] = x.at(k);
        }
        compare(when, x, stream);
        Check.yes(when + " the plan again", Arrays.equals(allOf(x), due));
    }

    /** A plan as it is after it was written and read. */
    private static int[] asRead(int[] plan, int count) {
        int[] row = plan.clone();
        for (int c = 0; c < count; c++) {
            int at = 15 + 175 * c;
            int levels = row[at + 4];
            for (int r = levels + 1; r < 33; r++) {
                row[at + 12 + r] = 15;
                row[at + 12 + 33 + r] = 15;
            }
            int kind = row[at + 9];
            for (int k = 0; k < 97; k++) {
                int value = k < (kind == 1 ? 1 : 3 * levels + 1) ? row[at + 78 + k] : 0;
                row[at + 78 + k] = kind == 0 ? value / 256 * 256 : value;
            }
        }
        return row;
    }

    /** How many bytes write() needs, if it tells what differs and nothing else. */
    private static int leastSize(StreamMarks x, int count) {
        int[] plan = asRead(allOf(x), count);
        int size = 2 + 40 + 3 * count + 7 + 2;
        int[] first = Arrays.copyOfRange(plan, 15, 15 + 175);
        size += 5 + precincts(first) + 2 + 2 + steps(first);
        for (int c = 0; c < count; c++) {
            int[] its = Arrays.copyOfRange(plan, 15 + 175 * c, 15 + 175 * (c + 1));
            boolean likeCoding = Arrays.equals(its, 4, 9, first, 4, 9)
                    && Arrays.equals(its, 12, 78, first, 12, 78);
            boolean likeSteps = Arrays.equals(its, 9, 11, first, 9, 11)
                    && steps(its) == steps(first) && Arrays.equals(its, 78, 175, first, 78, 175);
            size += likeCoding ? 0 : 2 + 9 + precincts(its);
            size += likeSteps ? 0 : 2 + 3 + steps(its);
            size += its[11] == 0 ? 0 : 7;
        }
        return size + (plan[14] == 0 ? 0 : 4 + 7 * plan[14]);
    }

    private static int precincts(int[] component) {
        for (int r = 0; r < 66; r++) {
            if (component[12 + r] != 15) {
                return component[4] + 1;
            }
        }
        return 0;
    }

    private static int steps(int[] component) {
        int values = component[9] == 1 ? 1 : 3 * component[4] + 1;
        return 1 + (component[9] == 0 ? values : 2 * values);
    }
}
