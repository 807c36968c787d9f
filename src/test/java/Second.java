import java.util.ArrayList;
import java.util.Arrays;
import java.util.List;
import java.util.NoSuchElementException;

/**
 * A second reading of the document: every call in its plainest form, with a scan by Model. Its
 * answers are compared with those of the class.
 */
final class Second implements Face {
    private static final int MOST_BYTES = 65536;
    /** The numbers of a component, as in Model: 20 .. 31 of get(), then 33 pw, 33 ph, 97 values. */
    private static final int NUMBERS = 12 + 66 + 97;

    /** 0 .. 14 of get(). */
    private int[] general;
    private final List<int[]> components = new ArrayList<>();
    private final List<int[]> changes = new ArrayList<>();
    private final List<Integer> stream = new ArrayList<>();
    private Model model = null;
    private int place = -1;

    Second() {
        plan();
    }

    private static void argument(boolean holds) {
        if (!holds) {
            throw new IllegalArgumentException();
        }
    }

    private static void state(boolean holds) {
        if (!holds) {
            throw new IllegalStateException();
        }
    }

    private static void there(boolean holds) {
        if (!holds) {
            throw new NoSuchElementException();
        }
    }

    private static boolean within(long from, long n, long to) {
        return from <= n && n <= to;
    }

    private void room(int bytes) {
        if (stream.size() + bytes > MOST_BYTES) {
            throw new UnsupportedOperationException();
        }
    }

    @Override
    public void plan() {
        general = new int[15];
        general[10] = 1;
        components.clear();
        changes.clear();
    }

    /** A plan as Model tells it. */
    private void load(int[] all) {
        plan();
        general = Arrays.copyOf(all, 15);
        int k = 15;
        for (int c = 0; c < general[8]; c++) {
            components.add(Arrays.copyOfRange(all, k, k + NUMBERS));
            k += NUMBERS;
        }
        for (int a = 0; a < general[14]; a++) {
            changes.add(Arrays.copyOfRange(all, k, k + 6));
            k += 6;
        }
    }

    @Override
    public void picture(int x0, int y0, int x1, int y1) {
        argument(within(0, x0, x1 - 1L) && within(0, y0, y1 - 1L));
        int[] area = {x0, y0, x1, y1, 0, 0, x1, y1};
        System.arraycopy(area, 0, general, 0, 8);
    }

    @Override
    public void tiles(int x, int y, int wide, int high) {
        state(general[2] > 0);
        argument(x >= 0 && y >= 0 && wide > 0 && high > 0);
        argument(within(x, general[0], (long) x + wide - 1));
        argument(within(y, general[1], (long) y + high - 1));
        long across = (general[2] - 1L - x) / wide + 1;
        long down = (general[3] - 1L - y) / high + 1;
        argument(across * down <= 64);
        int[] its = {x, y, wide, high};
        System.arraycopy(its, 0, general, 4, 4);
    }

    @Override
    public int component(int bits, boolean signed, int dx, int dy) {
        argument(within(1, bits, 38) && within(1, dx, 255) && within(1, dy, 255));
        state(components.size() < 16);
        int[] its = new int[NUMBERS];
        int[] first = {bits, signed ? 1 : 0, dx, dy, 0, 6, 6, 0, 1, 0, 2, 0};
        System.arraycopy(first, 0, its, 0, 12);
        Arrays.fill(its, 12, 12 + 66, 15);
        components.add(its);
        general[8]++;
        return components.size() - 1;
    }

    @Override
    public void general(int order, int layers, boolean colour, boolean ahead, boolean behind) {
        argument(within(0, order, 4) && within(1, layers, 255));
        int[] its = {order, layers, colour ? 1 : 0, ahead ? 1 : 0, behind ? 1 : 0};
        System.arraycopy(its, 0, general, 9, 5);
    }

    private int[] its(int c) {
        there(within(0, c, components.size() - 1));
        return components.get(c);
    }

    @Override
    public void coding(int c, int levels, int bw, int bh, int style, boolean exact) {
        int[] its = its(c);
        argument(within(0, levels, 32) && within(2, bw, 10) && within(2, bh, 10)
                && bw + bh <= 12 && within(0, style, 63));
        int[] told = {levels, bw, bh, style, exact ? 1 : 0};
        System.arraycopy(told, 0, its, 4, 5);
    }

    @Override
    public void precincts(int c, int r, int pw, int ph) {
        int[] its = its(c);
        argument(within(0, r, 32) && within(0, pw, 15) && within(0, ph, 15));
        argument(r == 0 || pw > 0 && ph > 0);
        its[12 + r] = pw;
        its[12 + 33 + r] = ph;
    }

    @Override
    public void steps(int c, int kind, int guard, int shift) {
        int[] its = its(c);
        argument(within(0, kind, 2) && within(0, guard, 7) && within(0, shift, 37));
        int[] told = {kind, guard, shift};
        System.arraycopy(told, 0, its, 9, 3);
    }

    @Override
    public void step(int c, int k, int value) {
        int[] its = its(c);
        argument(within(0, k, 96) && within(0, value, 65535));
        its[12 + 66 + k] = value;
    }

    @Override
    public int change(int level, int component, int layerEnd, int levelEnd, int componentEnd,
            int order) {
        argument(within(0, level, levelEnd - 1L) && levelEnd <= 33);
        argument(within(0, component, 15) && within(component + 1L, componentEnd, 16));
        argument(within(1, layerEnd, 255) && within(0, order, 4));
        state(changes.size() < 32);
        changes.add(new int[] {level, component, layerEnd, levelEnd, componentEnd, order});
        general[14]++;
        return changes.size();
    }

    @Override
    public int get(int what, int a, int b) {
        if (within(0, what, 14)) {
            return general[what];
        }
        if (within(20, what, 34)) {
            int[] its = its(a);
            there(what < 32 || within(0, b, what == 34 ? 96 : 32));
            return its[what < 32 ? what - 20 : what == 32 ? 12 + b : what == 33 ? 45 + b : 78 + b];
        }
        there(within(40, what, 45) && within(0, a, changes.size() - 1));
        return changes.get(a)[what - 40];
    }

    @Override
    public void clear() {
        stream.clear();
        model = null;
    }

    @Override
    public int put(int b) {
        argument(within(0, b, 255));
        room(1);
        stream.add(b);
        model = null;
        return stream.size();
    }

    @Override
    public int at(int k) {
        there(within(-1, k, stream.size() - 1));
        return k == -1 ? stream.size() : stream.get(k);
    }

    private int putAll(Bytes bytes) {
        room(bytes.size());
        for (int b : bytes.toArray()) {
            stream.add(b);
        }
        model = null;
        return bytes.size();
    }

    @Override
    public int write() {
        state(general[2] > 0 && !components.isEmpty());
        Bytes x = new Bytes().mark(79).segment(81, size().toArray());
        int[] first = components.get(0);
        int[] flags = {told(first) + 2 * general[12] + 4 * general[13]};
        x.segment(82, new Bytes().u1(flags).u1(general[9]).u2(general[10]).u1(general[11])
                .add(body(first)).toArray());
        x.segment(92, stepsOf(first).toArray());
        for (int c = 1; c < components.size(); c++) {
            int[] its = components.get(c);
            if (!Arrays.equals(body(its).toArray(), body(first).toArray())) {
                x.segment(83, new Bytes().u1(c, told(its)).add(body(its)).toArray());
            }
        }
        for (int c = 1; c < components.size(); c++) {
            Bytes its = stepsOf(components.get(c));
            if (!Arrays.equals(its.toArray(), stepsOf(first).toArray())) {
                x.segment(93, new Bytes().u1(c).add(its).toArray());
            }
        }
        for (int c = 0; c < components.size(); c++) {
            if (components.get(c)[11] != 0) {
                x.segment(94, c, 0, components.get(c)[11]);
            }
        }
        if (!changes.isEmpty()) {
            x.segment(95, changesTold().toArray());
        }
        return putAll(x);
    }

    private Bytes size() {
        Bytes x = new Bytes().u2(0);
        int[] order = {2, 3, 0, 1, 6, 7, 4, 5};
        for (int what : order) {
            x.u4(general[what]);
        }
        x.u2(components.size());
        for (int[] its : components) {
            x.u1(its[0] - 1 + 128 * its[1], its[2], its[3]);
        }
        return x;
    }

    private static int told(int[] its) {
        for (int r = 0; r <= its[4]; r++) {
            if (its[12 + r] != 15 || its[45 + r] != 15) {
                return 1;
            }
        }
        return 0;
    }

    private static Bytes body(int[] its) {
        Bytes x = new Bytes().u1(its[4], its[5] - 2, its[6] - 2, its[7], its[8]);
        for (int r = 0; r <= its[4] && told(its) == 1; r++) {
            x.u1(its[12 + r] + 16 * its[45 + r]);
        }
        return x;
    }

    private static Bytes stepsOf(int[] its) {
        Bytes x = new Bytes().u1(its[9] + 32 * its[10]);
        int count = its[9] == 1 ? 1 : 3 * its[4] + 1;
        for (int k = 0; k < count; k++) {
            if (its[9] == 0) {
                x.u1(its[78 + k] / 256);
            } else {
                x.u2(its[78 + k]);
            }
        }
        return x;
    }

    private Bytes changesTold() {
        Bytes x = new Bytes();
        for (int[] its : changes) {
            x.u1(its[0], its[1]).u2(its[2]).u1(its[3], its[4] % 256, its[5]);
        }
        return x;
    }

    @Override
    public void part(int tile, int part, int parts, int bytes) {
        argument(within(0, tile, 65535) && within(0, part, 255) && within(0, parts, 255)
                && within(0, bytes, 65536));
        putAll(new Bytes().part(tile, 14L + bytes, part, parts).mark(147));
    }

    @Override
    public void mark(int m) {
        argument(within(0, m, 255));
        putAll(new Bytes().mark(m));
    }

    @Override
    public void spoil(int k, int b) {
        there(within(0, k, stream.size() - 1));
        stream.set(k, Math.floorMod(b, 256));
        model = null;
    }

    @Override
    public int scan() {
        model = new Model(Model.toArray(stream));
        int number = model.number;
        place = model.place;
        if (number == 0) {
            load(model.plan(-1));
        } else {
            model = null;
        }
        return number;
    }

    @Override
    public int place() {
        return place;
    }

    private void demandTile(int tile) {
        state(model != null);
        there(within(0, tile, model.tileCount - 1));
    }

    @Override
    public int use(int tile) {
        demandTile(tile);
        load(model.plan(tile));
        return model.heads(tile).length;
    }

    @Override
    public int head(int tile, int i) {
        demandTile(tile);
        int[] heads = model.heads(tile);
        there(within(0, i, heads.length - 1));
        return heads[i];
    }

    @Override
    public int found(int k, int what) {
        state(model != null);
        if (k == -1) {
            return model.parts.size();
        }
        there(within(0, k, model.parts.size() - 1) && within(0, what, 4));
        return model.parts.get(k)[what];
    }
}
