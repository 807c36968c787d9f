import java.util.ArrayList;
import java.util.Arrays;
import java.util.HashMap;
import java.util.HashSet;
import java.util.List;
import java.util.Map;
import java.util.Set;

/** A second reading of the document: slow and plain, with the Java library. */
final class Model {
    private static final Set<Integer> BARE = new HashSet<>(Arrays.asList(79, 146, 147, 217));
    private static final Set<Integer> OF_PLAN =
            new HashSet<>(Arrays.asList(82, 83, 92, 93, 94, 95));
    private static final Set<Integer> NEVER_LOOSE =
            new HashSet<>(Arrays.asList(81, 144, 147, 79, 217, 146));

    static {
        for (int m = 48; m < 64; m++) {
            BARE.add(m);
        }
    }

    /** A mark with the bytes behind its length. */
    private static final class Segment {
        int place;
        int mark;
        int length;
        int[] body;
        int next;

        long number(int from, int bytes) {
            long n = 0;
            for (int i = from; i < from + bytes; i++) {
                n = n * 256 + body[i];
            }
            return n;
        }
    }

    private static final class Refusal extends Exception {
        private static final long serialVersionUID = 1;
        final int number;
        final int place;

        Refusal(int number, int place) {
            this.number = number;
            this.place = place;
        }
    }

    private final int[] s;
    int number = 0;
    int place = -1;
    final List<int[]> parts = new ArrayList<>();
    private Segment size;
    private final List<Segment> main = new ArrayList<>();
    private final Map<Integer, List<Segment>> ofTiles = new HashMap<>();
    private final List<List<Segment>> ofParts = new ArrayList<>();
    int tileCount;

    Model(int[] stream) {
        s = stream;
        try {
            read();
        } catch (Refusal refusal) {
            number = refusal.number;
            place = refusal.place;
        }
    }

    private static void refuseIf(boolean wrong, int number, int place) throws Refusal {
        if (wrong) {
            throw new Refusal(number, place);
        }
    }

    /** The mark at a place, refused by 1 or 2 only; 'may' are the marks allowed, null for all. */
    private Segment markAt(int p, int end) throws Refusal {
        refuseIf(p + 1 >= end, 1, p);
        refuseIf(s[p] != 255, 2, p);
        Segment g = new Segment();
        g.place = p;
        g.mark = s[p + 1];
        g.next = p + 2;
        g.body = new int[0];
        if (!BARE.contains(g.mark)) {
            refuseIf(p + 3 >= end, 1, p);
            g.length = s[p + 2] * 256 + s[p + 3];
            g.next = p + 2 + g.length;
            refuseIf(g.next > end, 1, p);
            if (g.length >= 2) {
                g.body = Arrays.copyOfRange(s, p + 4, g.next);
            }
        } else {
            g.length = 2;
        }
        return g;
    }

    private void read() throws Refusal {
        Segment start = markAt(0, s.length);
        refuseIf(start.mark != 79, 2, 0);
        size = markAt(2, s.length);
        refuseIf(size.mark != 81, 2, 2);
        checkSize();
        Segment g = markAt(size.next, s.length);
        while (g.mark != 144 && g.mark != 217) {
            refuseIf(NEVER_LOOSE.contains(g.mark) || g.mark == 88 || g.mark == 97, 2, g.place);
            check(g, main);
            main.add(g);
            g = markAt(g.next, s.length);
        }
        while (g.mark != 217) {
            refuseIf(g.mark != 144, 2, g.place);
            g = markAt(readPart(g), s.length);
        }
        refuseIf(mainLacks() || tilesLack(), 6, g.place);
    }

    private boolean mainLacks() {
        return count(main, 82) == 0 || count(main, 92) == 0;
    }

    private boolean tilesLack() {
        for (int t = 0; t < tileCount; t++) {
            int had = 0;
            int said = 0;
            for (int[] part : parts) {
                had += part[0] == t ? 1 : 0;
                said = part[0] == t ? Math.max(said, part[2]) : said;
            }
            if (had == 0 || said != 0 && said != had) {
                return true;
            }
        }
        return false;
    }

    private static int count(List<Segment> row, int mark) {
        int n = 0;
        for (Segment g : row) {
            n += g.mark == mark ? 1 : 0;
        }
        return n;
    }

    private void checkSize() throws Refusal {
        boolean fits = size.length >= 38 && size.length == 38 + 3 * size.number(34, 2);
        refuseIf(!fits, 3, 2);
        long n = size.number(34, 2);
        boolean good = true;
        long tiles = 1;
        for (int axis = 0; axis < 2; axis++) {
            long end = size.number(2 + 4 * axis, 4);
            long first = size.number(10 + 4 * axis, 4);
            long step = size.number(18 + 4 * axis, 4);
            long from = size.number(26 + 4 * axis, 4);
            boolean below = Math.max(Math.max(end, first), Math.max(step, from)) < 1L << 31;
            boolean right = below && first < end && step > 0 && from <= first
                    && (first - from) / step == 0;
            good = good && right;
            tiles = right ? tiles * ((end - 1 - from) / step + 1) : tiles;
        }
        refuseIf(n > 16 || good && tiles > 64, 7, 2);
        refuseIf(!good || n == 0, 5, 2);
        for (int c = 0; c < n; c++) {
            int k = 36 + 3 * c;
            refuseIf(size.body[k] % 128 > 37 || size.body[k + 1] == 0 || size.body[k + 2] == 0,
                    5, 2);
        }
        tileCount = (int) tiles;
    }

    private int componentCount() {
        return (int) size.number(34, 2);
    }

    private int readPart(Segment g) throws Refusal {
        refuseIf(g.length != 10, 3, g.place);
        refuseIf(parts.size() == 256, 7, g.place);
        int tile = (int) g.number(0, 2);
        long span = g.number(2, 4);
        int part = g.body[6];
        int told = g.body[7];
        int had = 0;
        boolean alike = true;
        for (int[] other : parts) {
            if (other[0] == tile) {
                had++;
                alike = alike && (told == 0 || other[2] == 0 || told == other[2]);
            }
        }
        refuseIf(tile >= tileCount || part != had || told != 0 && told <= part || !alike
                || span > 0 && span < 14, 5, g.place);
        int n = s.length;
        boolean ends = n - 2 >= g.place + 12 && s[n - 2] == 255 && s[n - 1] == 217;
        refuseIf(span == 0 ? !ends : g.place + span > n, 1, g.place);
        refuseIf(parts.isEmpty() && mainLacks(), 6, g.place);
        int end = span == 0 ? n - 2 : (int) (g.place + span);
        List<Segment> ofTile = ofTiles.computeIfAbsent(tile, t -> new ArrayList<>());
        List<Segment> ofPart = new ArrayList<>();
        Segment h = markAt(g.next, end);
        while (h.mark != 147) {
            refuseIf(NEVER_LOOSE.contains(h.mark)
                    || Arrays.asList(85, 87, 96, 99).contains(h.mark)
                    || OF_PLAN.contains(h.mark) && part != 0
                    || h.mark == 97 && count(main, 96) > 0, 2, h.place);
            check(h, ofTile);
            ofTile.add(h);
            ofPart.add(h);
            h = markAt(h.next, end);
        }
        parts.add(new int[] {tile, part, told, h.next, end - h.next});
        ofParts.add(ofPart);
        return end;
    }

    /** A loose segment, by 3, 7, 5 and 4. */
    private void check(Segment g, List<Segment> before) throws Refusal {
        refuseIf(g.length < 2 || !fits(g), 3, g.place);
        refuseIf(g.mark == 82 && g.number(2, 2) > 255
                || g.mark == 95 && g.body.length / 7 > 32, 7, g.place);
        refuseIf(!isRight(g, before), 5, g.place);
        for (Segment other : before) {
            boolean its = g.mark == 83 || g.mark == 93 || g.mark == 94;
            refuseIf(OF_PLAN.contains(g.mark) && other.mark == g.mark
                    && (!its || other.body[0] == g.body[0]), 4, g.place);
        }
    }

    private static boolean fits(Segment g) {
        int n = g.body.length;
        switch (g.mark) {
            case 82: return n >= 10 && n == 10 + (g.body[0] % 2 == 1 ? 1 + g.body[5] : 0);
            case 83: return n >= 7 && n == 7 + (g.body[1] % 2 == 1 ? 1 + g.body[2] : 0);
            case 92: return n >= 1 && fitsSteps(g.body[0] % 32, n - 1);
            case 93: return n >= 2 && fitsSteps(g.body[1] % 32, n - 2);
            case 94: return n == 3;
            case 95: return n % 7 == 0;
            case 96:
            case 97: return n >= 1;
            default: return true;
        }
    }

    private static boolean fitsSteps(int kind, int n) {
        for (int k = 0; k <= 32; k++) {
            if (kind == 0 && n == 1 + 3 * k || kind == 2 && n == 2 + 6 * k) {
                return true;
            }
        }
        return kind == 1 && n == 2 || kind > 2;
    }

    private boolean isRight(Segment g, List<Segment> before) {
        int[] b = g.body;
        boolean its = g.mark == 83 || g.mark == 93 || g.mark == 94;
        if (its && b[0] >= componentCount()) {
            return false;
        }
        switch (g.mark) {
            case 82:
                return b[0] < 8 && b[1] < 5 && g.number(2, 2) > 0 && b[4] < 2
                        && isBody(Arrays.copyOfRange(b, 5, b.length));
            case 83: return b[1] < 2 && isBody(Arrays.copyOfRange(b, 2, b.length));
            case 92: return b[0] % 32 < 3;
            case 93: return b[1] % 32 < 3;
            case 94: return b[1] == 0 && b[2] < 38;
            case 95: return areChanges(b);
            case 96:
            case 97: return b[0] == count(before, g.mark);
            default: return true;
        }
    }

    private static boolean isBody(int[] b) {
        if (b[0] > 32 || b[1] > 8 || b[2] > 8 || b[1] + b[2] > 8 || b[3] > 63 || b[4] > 1) {
            return false;
        }
        for (int i = 6; i < b.length; i++) {
            if (b[i] % 16 == 0 || b[i] / 16 == 0) {
                return false;
            }
        }
        return true;
    }

    private static boolean areChanges(int[] b) {
        for (int k = 0; k < b.length; k += 7) {
            int end = b[k + 5] == 0 ? 256 : b[k + 5];
            if (b[k + 4] <= b[k] || b[k + 4] > 33 || end <= b[k + 1]
                    || b[k + 2] + b[k + 3] == 0 || b[k + 6] > 4) {
                return false;
            }
        }
        return true;
    }

    /** All numbers of get() of the main plan (tile -1) or of a tile's, in order. */
    int[] plan(int tile) {
        List<List<Segment>> rows = new ArrayList<>();
        rows.add(main);
        if (tile >= 0) {
            rows.add(ofTiles.get(tile));
        }
        int[] general = new int[15];
        int[] order = {10, 14, 2, 6, 26, 30, 18, 22};
        for (int i = 0; i < 8; i++) {
            general[i] = (int) size.number(order[i], 4);
        }
        general[8] = componentCount();
        int[] changes = new int[0];
        for (List<Segment> row : rows) {
            for (Segment g : row) {
                if (g.mark == 82) {
                    general[9] = g.body[1];
                    general[10] = (int) g.number(2, 2);
                    general[11] = g.body[4];
                    general[12] = g.body[0] / 2 % 2;
                    general[13] = g.body[0] / 4;
                } else if (g.mark == 95) {
                    changes = g.body;
                }
            }
        }
        general[14] = changes.length / 7;
        List<Integer> all = new ArrayList<>();
        addAll(all, general);
        for (int c = 0; c < componentCount(); c++) {
            addAll(all, component(c, rows));
        }
        for (int k = 0; k < changes.length; k += 7) {
            addAll(all, changes[k], changes[k + 1], changes[k + 2] * 256 + changes[k + 3],
                    changes[k + 4], changes[k + 5] == 0 ? 256 : changes[k + 5], changes[k + 6]);
        }
        return toArray(all);
    }

    private static void addAll(List<Integer> row, int... numbers) {
        for (int n : numbers) {
            row.add(n);
        }
    }

    static int[] toArray(List<Integer> row) {
        int[] array = new int[row.size()];
        for (int i = 0; i < array.length; i++) {
            array[i] = row.get(i);
        }
        return array;
    }

    private int[] component(int c, List<List<Segment>> rows) {
        int[] n = new int[12 + 66 + 97];
        int bits = size.body[36 + 3 * c];
        n[0] = bits % 128 + 1;
        n[1] = bits / 128;
        n[2] = size.body[37 + 3 * c];
        n[3] = size.body[38 + 3 * c];
        for (List<Segment> row : rows) {
            for (int round = 0; round < 2; round++) {
                for (Segment g : row) {
                    boolean its = (g.mark == 83 || g.mark == 93) && g.body[0] == c;
                    if (round == 0 && g.mark == 82) {
                        setCoding(n, g.body[0] % 2 == 1, Arrays.copyOfRange(g.body, 5, 999));
                    } else if (round == 0 && g.mark == 92) {
                        setSteps(n, g.body);
                    } else if (round == 1 && its && g.mark == 83) {
                        setCoding(n, g.body[1] == 1, Arrays.copyOfRange(g.body, 2, 999));
                    } else if (round == 1 && its) {
                        setSteps(n, Arrays.copyOfRange(g.body, 1, g.body.length));
                    } else if (g.mark == 94 && g.body[0] == c) {
                        n[11] = g.body[2];
                    }
                }
            }
        }
        return n;
    }

    private static void setCoding(int[] n, boolean told, int[] body) {
        n[4] = body[0];
        n[5] = body[1] + 2;
        n[6] = body[2] + 2;
        n[7] = body[3];
        n[8] = body[4];
        for (int r = 0; r < 33; r++) {
            boolean toldHere = told && r <= body[0];
            n[12 + r] = toldHere ? body[5 + r] % 16 : 15;
            n[12 + 33 + r] = toldHere ? body[5 + r] / 16 : 15;
        }
    }

    private static void setSteps(int[] n, int[] body) {
        n[9] = body[0] % 32;
        n[10] = body[0] / 32;
        int[] more = Arrays.copyOf(body, 1 + 2 * 97);
        for (int k = 0; k < 97; k++) {
            n[78 + k] = n[9] == 0 ? more[1 + k] * 256 : more[1 + 2 * k] * 256 + more[2 + 2 * k];
        }
    }

    /** The bytes of a tile's heads. */
    int[] heads(int tile) {
        List<Integer> all = new ArrayList<>();
        for (Segment g : main) {
            if (g.mark == 96) {
                addAll(all, Arrays.copyOfRange(g.body, 1, g.body.length));
            }
        }
        List<Integer> its = new ArrayList<>();
        for (int k = 0; k < parts.size(); k++) {
            List<Integer> share = new ArrayList<>();
            for (Segment g : ofParts.get(k)) {
                if (g.mark == 97) {
                    addAll(share, Arrays.copyOfRange(g.body, 1, g.body.length));
                }
            }
            if (all.size() >= 4) {
                long n = 0;
                for (int i = 0; i < 4; i++) {
                    n = n * 256 + all.remove(0);
                }
                while (n > 0 && !all.isEmpty()) {
                    share.add(all.remove(0));
                    n--;
                }
            }
            if (parts.get(k)[0] == tile) {
                its.addAll(share);
            }
        }
        return toArray(its);
    }
}
