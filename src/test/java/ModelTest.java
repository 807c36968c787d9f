import java.util.ArrayList;
import java.util.Arrays;
import java.util.List;
import java.util.Random;

/** Streams and plans by the thousand, each against a second reading of the document. */
public final class ModelTest {
    private static final int STREAMS = 60000;
    private static final int PLANS = 4000;
    private static final int MOST_TILES = 64;

    private final Random random;

    private ModelTest(long seed) {
        random = new Random(seed);
    }

    public static void main(String[] args) {
        int[] seen = new int[8];
        int tooLong = 0;
        Counted x = new Counted();
        for (int n = 0; n < STREAMS; n++) {
            Bytes stream = MadeUp.stream(n);
            // The same object again if it may, so that nothing of an earlier scan may stay.
            int calls = stream.calls() + 1 + MOST_TILES;
            x = n % 2 == 0 && calls <= x.callsLeft() ? x : new Counted();
            if (calls <= x.callsLeft()) {
                stream.feed(x);
                seen[compare("stream " + n, x, new Model(stream.toArray()))]++;
            } else {
                tooLong++;
            }
        }
        System.out.println("numbers seen: " + Arrays.toString(seen) + ", too long: " + tooLong);
        for (int number = 0; number < 8; number++) {
            Check.yes("number " + number + " was seen often", seen[number] > 100);
        }
        for (int n = 0; n < PLANS; n++) {
            new ModelTest(n).roundTrip("plan " + n);
        }
        Check.end("ModelTest");
    }

    private static int compare(String when, Counted x, Model model) {
        int[] before = allOf(x);
        Check.same(when + " scan()", x.scan(), model.number);
        Check.same(when + " place()", x.place(), model.place);
        if (model.number != 0) {
            Check.yes(when + " the plan stays", Arrays.equals(before, allOf(x)));
            return model.number;
        }
        compareScanned(when, x, model);
        return 0;
    }

    private static void compareScanned(String when, Counted x, Model model) {
        Check.yes(when + " main plan", Arrays.equals(allOf(x), model.plan(-1)));
        Check.same(when + " found(-1)", x.found(-1, 0), model.parts.size());
        for (int k = 0; k < model.parts.size(); k++) {
            for (int what = 0; what < 5; what++) {
                Check.same(when + " found", x.found(k, what), model.parts.get(k)[what]);
            }
        }
        for (int tile = 0; tile < model.tileCount; tile++) {
            int[] heads = model.heads(tile);
            Check.same(when + " use", x.use(tile), heads.length);
            Check.yes(when + " plan of a tile", Arrays.equals(allOf(x), model.plan(tile)));
            for (int i = 0; i < heads.length; i++) {
                Check.same(when + " head", x.head(tile, i), heads[i]);
            }
        }
    }

    /** All that get() answers, in the order of Model.plan(). */
    private static int[] allOf(Counted x) {
        List<Integer> all = new ArrayList<>();
        for (int what = 0; what < 15; what++) {
            all.add(x.get(what, 0, 0));
        }
        for (int c = 0; c < x.get(8, 0, 0); c++) {
            for (int what = 20; what < 32; what++) {
                all.add(x.get(what, c, 0));
            }
            for (int r = 0; r < 66; r++) {
                all.add(x.get(32 + r / 33, c, r % 33));
            }
            for (int k = 0; k < 97; k++) {
                all.add(x.get(34, c, k));
            }
        }
        for (int a = 0; a < x.get(14, 0, 0); a++) {
            for (int what = 40; what < 46; what++) {
                all.add(x.get(what, a, 0));
            }
        }
        return Model.toArray(all);
    }

    private int below(int n) {
        return random.nextInt(n);
    }

    private boolean oneIn(int n) {
        return below(n) == 0;
    }

    /** A plan of the calls, written, scanned and compared; the bytes are judged by the model. */
    private void roundTrip(String when) {
        Counted x = new Counted();
        int count = 1 + below(4);
        x.picture(below(9), below(9), 9 + below(99), 9 + below(99));
        int levels = below(5);
        int kind = below(3);
        for (int c = 0; c < count; c++) {
            x.component(1 + below(38), oneIn(2), 1 + below(255), 1 + below(255));
            x.coding(c, oneIn(3) ? below(33) : levels, 5, 5, 3, oneIn(5));
            x.steps(c, oneIn(3) ? below(3) : kind, 2, oneIn(3) ? below(38) : 0);
            for (int n = below(4); n > 0; n--) {
                x.step(c, oneIn(3) ? below(97) : below(4), oneIn(2) ? below(600) : below(65536));
                x.precincts(c, oneIn(2) ? below(33) : below(3), oneIn(2) ? 15 : 1 + below(15), 15);
            }
        }
        x.general(below(5), 1 + below(255), oneIn(2), oneIn(2), oneIn(2));
        for (int n = below(3); n > 0; n--) {
            x.change(below(9), below(4), 1 + below(255), 9 + below(25), 4 + below(13), below(5));
        }
        int[] due = asRead(allOf(x), count);
        int bytes = x.write();
        Check.same(when + " size", x.at(-1), bytes);
        Check.same(when + " least size", bytes, leastSize(x, count));
        x.part(0, 0, 1, 0);
        x.mark(217);
        x.plan();
        int[] stream = new int[x.at(-1)];
        for (int k = 0; k < stream.length; k++) {
            stream[k] = x.at(k);
        }
        compare(when, x, new Model(stream));
        Check.yes(when + " the plan again", Arrays.equals(allOf(x), due));
    }

    /** A plan as it is after it was written and read. */
    private static int[] asRead(int[] plan, int count) {
        int[] row = plan.clone();
        for (int c = 0; c < count; c++) {
            int at = 15 + 175 * c;
            int levels = row[at + 4];
            for (int r = levels + 1; r < 33; r++) {
                row[at + 12 + r] = 15;
                row[at + 12 + 33 + r] = 15;
            }
            int kind = row[at + 9];
            for (int k = 0; k < 97; k++) {
                int value = k < (kind == 1 ? 1 : 3 * levels + 1) ? row[at + 78 + k] : 0;
                row[at + 78 + k] = kind == 0 ? value / 256 * 256 : value;
            }
        }
        return row;
    }

    /** How many bytes write() needs, if it tells what differs and nothing else. */
    private static int leastSize(Counted x, int count) {
        int[] plan = asRead(allOf(x), count);
        int size = 2 + 40 + 3 * count + 7 + 2;
        int[] first = Arrays.copyOfRange(plan, 15, 15 + 175);
        size += 5 + precincts(first) + 2 + 2 + steps(first);
        for (int c = 0; c < count; c++) {
            int[] its = Arrays.copyOfRange(plan, 15 + 175 * c, 15 + 175 * (c + 1));
            boolean likeCoding = Arrays.equals(its, 4, 9, first, 4, 9)
                    && Arrays.equals(its, 12, 78, first, 12, 78);
            boolean likeSteps = Arrays.equals(its, 9, 11, first, 9, 11)
                    && steps(its) == steps(first) && Arrays.equals(its, 78, 175, first, 78, 175);
            size += likeCoding ? 0 : 2 + 9 + precincts(its);
            size += likeSteps ? 0 : 2 + 3 + steps(its);
            size += its[11] == 0 ? 0 : 7;
        }
        return size + (plan[14] == 0 ? 0 : 4 + 7 * plan[14]);
    }

    private static int precincts(int[] component) {
        for (int r = 0; r < 66; r++) {
            if (component[12 + r] != 15) {
                return component[4] + 1;
            }
        }
        return 0;
    }

    private static int steps(int[] component) {
        int values = component[9] == 1 ? 1 : 3 * component[4] + 1;
        return 1 + (component[9] == 0 ? values : 2 * values);
    }
}
