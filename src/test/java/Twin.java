import java.util.ArrayList;
import java.util.List;
import java.util.NoSuchElementException;
import java.util.function.ToIntFunction;

/**
 * Two objects made alike: one gets a call that is refused, then both are asked all that can be
 * asked. Each few questions get two new objects, as an object is used for 512 calls at most.
 */
final class Twin {
    private static final int AT_A_TIME = 50;
    /** Of a longer stream the bytes at its ends are asked for, and some between. */
    private static final int FEW_BYTES = 400;

    private record Question(String text, ToIntFunction<Counted> ask) {
        String answerOf(Counted x) {
            try {
                return String.valueOf(ask.applyAsInt(x));
            } catch (RuntimeException e) {
                return e.getClass().getSimpleName();
            }
        }
    }

    private Twin() {
    }

    static void argument(String what, Use call, Use... states) {
        refuses(what, IllegalArgumentException.class, call, states);
    }

    static void state(String what, Use call, Use... states) {
        refuses(what, IllegalStateException.class, call, states);
    }

    static void none(String what, Use call, Use... states) {
        refuses(what, NoSuchElementException.class, call, states);
    }

    static void full(String what, Use call, Use... states) {
        refuses(what, UnsupportedOperationException.class, call, states);
    }

    private static void refuses(String what, Class<? extends RuntimeException> due, Use call,
            Use... states) {
        for (Use state : states) {
            Use refused = x -> Check.refuses(what, due, () -> call.on(x));
            List<Question> all = aboutPlan(state);
            all.addAll(aboutBytes(state));
            all.addAll(aboutScan(state));
            all.addAll(aboutTiles(state));
            compare(what, state, refused, all);
        }
    }

    /** The call throws nothing, and the plan and the bytes stay. */
    static void planAndBytesStay(String what, Use call, Use state) {
        List<Question> all = aboutPlan(state);
        all.addAll(aboutBytes(state));
        compare(what, state, call, all);
    }

    /** The call throws nothing, and the bytes, the scan and its place stay. */
    static void streamStays(String what, Use call, Use state) {
        List<Question> all = aboutBytes(state);
        all.addAll(aboutScan(state));
        all.addAll(aboutTiles(state));
        compare(what, state, call, all);
    }

    /** The call throws nothing, and the plan stays, and where the latest scan refused. */
    static void planAndPlaceStay(String what, Use call, Use state) {
        List<Question> all = aboutPlan(state);
        all.add(new Question("place()", Counted::place));
        compare(what, state, call, all);
    }

    private static void compare(String what, Use state, Use call, List<Question> all) {
        for (int first = 0; first < all.size(); first += AT_A_TIME) {
            Counted one = Made.with(state);
            Counted other = Made.with(state);
            call.on(one);
            for (int i = first; i < first + AT_A_TIME && i < all.size(); i++) {
                String got = all.get(i).answerOf(one);
                String due = all.get(i).answerOf(other);
                Check.sameText(what + ": then " + all.get(i).text(), got, due);
            }
        }
    }

    private static void askGet(List<Question> all, int what, int a, int b) {
        all.add(new Question("get(" + what + ", " + a + ", " + b + ")", x -> x.get(what, a, b)));
    }

    private static List<Question> aboutPlan(Use state) {
        List<Question> all = new ArrayList<>();
        Counted seen = Made.with(state);
        for (int what = 0; what <= 14; what++) {
            askGet(all, what, 0, 0);
        }
        int components = seen.get(8, 0, 0);
        for (int c = 0; c < components; c++) {
            for (int what = 20; what <= 31; what++) {
                askGet(all, what, c, 0);
            }
            for (int r = 0; r <= 32; r++) {
                askGet(all, 32, c, r);
                askGet(all, 33, c, r);
            }
            for (int k = 0; k <= 96; k++) {
                askGet(all, 34, c, k);
            }
        }
        int changes = seen.get(14, 0, 0);
        for (int a = 0; a < changes; a++) {
            for (int what = 40; what <= 45; what++) {
                askGet(all, what, a, 0);
            }
        }
        askGet(all, 20, components, 0);
        askGet(all, 40, changes, 0);
        return all;
    }

    private static List<Question> aboutBytes(Use state) {
        List<Question> all = new ArrayList<>();
        int size = Made.with(state).at(-1);
        for (int k = -1; k <= size; k++) {
            int place = k;
            if (size <= FEW_BYTES || k < 50 || k > size - 50 || k % 997 == 0) {
                all.add(new Question("at(" + k + ")", x -> x.at(place)));
            }
        }
        return all;
    }

    private static List<Question> aboutScan(Use state) {
        List<Question> all = new ArrayList<>();
        all.add(new Question("place()", Counted::place));
        all.add(new Question("found(-1, 0)", x -> x.found(-1, 0)));
        Counted seen = Made.with(state);
        int parts = new Question("", x -> x.found(-1, 0)).answerOf(seen).matches("\\d+")
                ? seen.found(-1, 0) : 0;
        for (int k = 0; k < parts; k++) {
            int part = k;
            for (int w = 0; w <= 4; w++) {
                int what = w;
                all.add(new Question("found(" + k + ", " + w + ")", x -> x.found(part, what)));
            }
        }
        return all;
    }

    /** These come last: use() makes the plan another one. */
    private static List<Question> aboutTiles(Use state) {
        List<Question> all = new ArrayList<>();
        Counted seen = Made.with(state);
        for (int t = 0; t <= 64; t++) {
            int tile = t;
            Question use = new Question("use(" + t + ")", x -> x.use(tile));
            all.add(use);
            String heads = use.answerOf(seen);
            if (!heads.matches("\\d+")) {
                return all;
            }
            for (int k = 0; k <= Integer.parseInt(heads); k++) {
                int i = k;
                all.add(new Question("head(" + t + ", " + k + ")", x -> x.head(tile, i)));
            }
            for (int what = 0; what <= 14; what++) {
                askUsed(all, tile, what, 0);
            }
            for (int c = 0; c < seen.get(8, 0, 0); c++) {
                for (int what = 24; what <= 34; what++) {
                    askUsed(all, tile, what, c);
                }
            }
        }
        return all;
    }

    private static void askUsed(List<Question> all, int tile, int what, int a) {
        all.add(new Question("get(" + what + ", " + a + ", 0) of tile " + tile, x -> {
            x.use(tile);
            return x.get(what, a, 0);
        }));
    }
}
