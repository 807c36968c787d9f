import java.util.ArrayList;
import java.util.Collections;
import java.util.List;
import java.util.Random;

/** Made-up streams: each is like one that a scan takes, but for some numbers, or bytes. */
final class MadeUp {
    private static final int[] ANY_MARK = {0, 255, 48, 63, 79, 81, 82, 83, 85, 87, 88, 92, 93, 94,
        95, 96, 97, 99, 100, 144, 146, 147, 217, 7};

    private final Random random;
    /** How often, in a thousand, a number is a wrong one. */
    private int spoiled;
    private int components;

    private MadeUp(long seed) {
        random = new Random(seed);
    }

    static Bytes stream(long seed) {
        return new MadeUp(seed).make();
    }

    private int below(int n) {
        return random.nextInt(n);
    }

    private boolean oneIn(int n) {
        return below(n) == 0;
    }

    /** A number from .. to, or, seldom, some byte. */
    private int number(int from, int to) {
        return below(1000) < spoiled ? below(256) : from + below(to - from + 1);
    }

    private Bytes make() {
        spoiled = oneIn(2) ? 0 : oneIn(2) ? 5 : 40;
        components = oneIn(30) ? 17 : oneIn(20) ? 16 : 1 + below(3);
        int across = 1 + below(3);
        int down = oneIn(40) ? 65 : 1 + below(2);
        Bytes x = new Bytes().mark(number(79, 79)).add(size(across, down));
        boolean packed = oneIn(3);
        List<Bytes> main = new ArrayList<>();
        for (int mark : new int[] {82, 92, 83, 93, 94, 95, 83, 94, 100, 99}) {
            if (mark == 82 || mark == 92 ? !oneIn(40) : oneIn(3)) {
                main.add(segment(mark, 0));
            }
            if (below(1000) < spoiled) {
                main.add(segment(ANY_MARK[below(ANY_MARK.length)], 0));
            }
        }
        for (Bytes segment : shuffled(main)) {
            x.add(segment);
        }
        for (int n = 0; packed && n < 1 + below(3); n++) {
            x.add(segment(96, n));
        }
        addParts(x, across * down, packed);
        x.mark(number(217, 217));
        return spoil(x);
    }

    private List<Bytes> shuffled(List<Bytes> row) {
        Collections.shuffle(row, random);
        return row;
    }

    private Bytes size(int across, int down) {
        Bytes x = new Bytes().mark(81).u2(38 + 3 * components).u2(below(65536));
        int wide = 1 + below(1 << below(20));
        int high = 1 + below(1 << below(20));
        int fromX = below(1 << below(20));
        int fromY = below(1 << below(20));
        long[] u4 = {(long) fromX + (long) wide * across - below(across == 1 ? 1 : wide),
            (long) fromY + (long) high * down - below(down == 1 ? 1 : high),
            fromX + below(across == 1 ? wide : wide), fromY + below(high), wide, high, fromX,
            fromY};
        for (long n : u4) {
            boolean odd = below(2000) < spoiled;
            x.u4(odd ? oneIn(2) ? 0 : random.nextInt() : n);
        }
        x.u2(below(2000) < spoiled ? below(20) : components);
        for (int c = 0; c < components; c++) {
            x.u1(number(0, 37) + (oneIn(2) ? 128 : 0), number(1, 255), number(1, 255));
        }
        return x;
    }

    private int[] body(boolean told) {
        int levels = oneIn(10) ? below(34) : below(4);
        int[] b = new int[5 + (told ? levels + 1 : 0)];
        b[0] = number(levels, levels);
        b[1] = number(0, 4);
        b[2] = number(0, 4);
        b[3] = number(0, 63);
        b[4] = number(0, 1);
        for (int r = 0; r + 5 < b.length; r++) {
            b[5 + r] = number(r == 0 ? 0 : 1, 15) + 16 * (r == 0 ? below(16) : number(1, 15));
        }
        return b;
    }

    private Bytes segment(int mark, int n) {
        Bytes b = new Bytes();
        boolean told = oneIn(2);
        switch (mark) {
            case 82:
                b.u1(number(0, 3) * 2 + (told ? 1 : 0), number(0, 4));
                b.u2(oneIn(50) ? 250 + below(10) : number(1, 255)).u1(number(0, 1)).u1(body(told));
                break;
            case 83:
                b.u1(number(0, components - 1), number(0, 0) * 2 + (told ? 1 : 0)).u1(body(told));
                break;
            case 92:
                b.u1(steps());
                break;
            case 93:
                b.u1(number(0, components - 1)).u1(steps());
                break;
            case 94:
                b.u1(number(0, components - 1), number(0, 0), number(0, 37));
                break;
            case 95:
                addChanges(b);
                break;
            case 96:
                b.u1(number(n, n)).u1(packedBytes());
                break;
            case 97:
                b.u1(number(n, n)).u1(bytes(below(4)));
                break;
            default:
                b.u1(bytes(below(6)));
                break;
        }
        boolean bare = mark >= 48 && mark <= 63 || mark == 79 || mark == 146 || mark == 147
                || mark == 217;
        Bytes x = new Bytes().mark(mark);
        int odd = below(1000) < spoiled ? below(5) - 2 : 0;
        return bare ? x : x.u2(2 + b.size() + odd).add(b);
    }

    private void addChanges(Bytes b) {
        int count = oneIn(20) ? 30 + below(5) : below(3);
        for (int i = 0; i < count; i++) {
            int level = below(33);
            int component = below(256);
            int end = component + 1 + below(256 - component);
            b.u1(number(level, level), number(component, component));
            b.u2(number(1, 65535)).u1(number(level + 1, 33), number(end, end), number(0, 4));
        }
    }

    private int[] steps() {
        int kind = number(0, 2) & 31;
        int count = kind == 1 ? 1 : 1 + 3 * (oneIn(10) ? below(34) : below(4));
        int bytes = kind == 0 ? count : 2 * count;
        int[] row = bytes(1 + bytes + (below(1000) < spoiled ? 1 : 0));
        row[0] = kind + 32 * below(8);
        return row;
    }

    private int[] bytes(int count) {
        int[] row = new int[count];
        for (int i = 0; i < count; i++) {
            row[i] = oneIn(6) ? 255 : below(256);
        }
        return row;
    }

    private int[] packedBytes() {
        Bytes b = new Bytes();
        for (int i = 0; i < below(4); i++) {
            int n = below(4);
            b.u4(oneIn(10) ? random.nextInt() : n).u1(bytes(n));
        }
        return b.cutTo(oneIn(3) ? below(12) : 99).toArray();
    }

    private void addParts(Bytes x, int tiles, boolean packed) {
        int many = oneIn(400) ? 260 : tiles + below(4);
        int[] had = new int[tiles];
        int[] heads = new int[tiles];
        int[] order = new int[many];
        int[] total = new int[tiles];
        for (int k = 0; k < many; k++) {
            order[k] = k < tiles && !oneIn(100) ? k : below(tiles);
            total[order[k]]++;
        }
        boolean tells = oneIn(2);
        for (int k = 0; k < many; k++) {
            int t = order[k];
            Bytes header = new Bytes();
            for (int n = 0; n < below(5); n++) {
                int[] may = {82, 83, 92, 93, 94, 95, 83, 94};
                boolean ofPlan = had[t] == 0 && oneIn(2);
                int mark = ofPlan ? may[below(may.length)] : oneIn(3) && !packed ? 97
                        : 48 + below(16);
                header.add(segment(below(500) < spoiled ? ANY_MARK[below(ANY_MARK.length)] : mark,
                        heads[t]));
                heads[t] += mark == 97 ? 1 : 0;
            }
            header.mark(number(147, 147));
            int[] data = bytes(below(4));
            int span = 12 + header.size() + data.length;
            boolean last = k == many - 1;
            int told = tells && oneIn(2) ? Math.min(total[t], 255) : 0;
            x.part(number(t, t), last && oneIn(3) ? 0 : below(1500) < spoiled ? below(60) : span,
                    number(had[t], had[t]), number(told, told));
            x.add(header).u1(data);
            had[t]++;
        }
    }

    private Bytes spoil(Bytes x) {
        if (oneIn(3)) {
            for (int n = 0; n <= below(3); n++) {
                x.set(below(x.size()), oneIn(4) ? ANY_MARK[below(ANY_MARK.length)] : below(256));
            }
        }
        if (oneIn(10)) {
            x.cutTo(below(x.size() + 1));
        }
        if (oneIn(10)) {
            x.u1(bytes(below(3)));
        }
        return x;
    }
}
