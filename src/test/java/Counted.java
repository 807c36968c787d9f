import java.util.ArrayList;
import java.util.List;
import java.util.function.Consumer;
import java.util.function.ToIntFunction;

/**
 * The class as the document has it used: no object gets more than 512 calls, as what later ones
 * answer is free. A question (a call that changes nothing) beyond that is asked of a new object,
 * to which all calls that may have changed something were made again.
 */
final class Counted implements Face {
    static final int MOST_CALLS = 512;

    private final List<ToIntFunction<StreamMarks>> history = new ArrayList<>();
    private StreamMarks object = new StreamMarks();
    private int calls = 0;

    /** How many calls the object may still get that change something. */
    int callsLeft() {
        return MOST_CALLS - history.size();
    }

    private int ask(ToIntFunction<StreamMarks> question) {
        if (calls == MOST_CALLS) {
            renew();
        }
        calls++;
        demandFew();
        return question.applyAsInt(object);
    }

    private void renew() {
        object = new StreamMarks();
        calls = 0;
        for (ToIntFunction<StreamMarks> call : history) {
            Check.nameOfThrown(() -> call.applyAsInt(object));
            calls++;
        }
    }

    private int call(ToIntFunction<StreamMarks> call) {
        // An object that was asked much is left, so that questions take no room from the calls.
        if (calls == MOST_CALLS) {
            renew();
        }
        history.add(call);
        calls++;
        demandFew();
        return call.applyAsInt(object);
    }

    private void doing(Consumer<StreamMarks> call) {
        call(x -> {
            call.accept(x);
            return 0;
        });
    }

    /** An Error, which no test takes for an exception of the document. */
    private void demandFew() {
        if (calls > MOST_CALLS) {
            throw new AssertionError("an object is used for more than 512 calls");
        }
    }

    @Override
    public void plan() {
        doing(StreamMarks::plan);
    }

    @Override
    public void picture(int x0, int y0, int x1, int y1) {
        doing(x -> x.picture(x0, y0, x1, y1));
    }

    @Override
    public void tiles(int fromX, int fromY, int wide, int high) {
        doing(x -> x.tiles(fromX, fromY, wide, high));
    }

    @Override
    public int component(int bits, boolean signed, int dx, int dy) {
        return call(x -> x.component(bits, signed, dx, dy));
    }

    @Override
    public void general(int order, int layers, boolean colour, boolean ahead, boolean behind) {
        doing(x -> x.general(order, layers, colour, ahead, behind));
    }

    @Override
    public void coding(int c, int levels, int bw, int bh, int style, boolean exact) {
        doing(x -> x.coding(c, levels, bw, bh, style, exact));
    }

    @Override
    public void precincts(int c, int r, int pw, int ph) {
        doing(x -> x.precincts(c, r, pw, ph));
    }

    @Override
    public void steps(int c, int kind, int guard, int shift) {
        doing(x -> x.steps(c, kind, guard, shift));
    }

    @Override
    public void step(int c, int k, int value) {
        doing(x -> x.step(c, k, value));
    }

    @Override
    public int change(int level, int component, int layerEnd, int levelEnd, int componentEnd,
            int order) {
        return call(x -> x.change(level, component, layerEnd, levelEnd, componentEnd, order));
    }

    @Override
    public int get(int what, int a, int b) {
        return ask(x -> x.get(what, a, b));
    }

    @Override
    public void clear() {
        doing(StreamMarks::clear);
    }

    @Override
    public int put(int b) {
        return call(x -> x.put(b));
    }

    @Override
    public int at(int k) {
        return ask(x -> x.at(k));
    }

    @Override
    public int write() {
        return call(StreamMarks::write);
    }

    @Override
    public void part(int tile, int part, int parts, int bytes) {
        doing(x -> x.part(tile, part, parts, bytes));
    }

    @Override
    public void mark(int m) {
        doing(x -> x.mark(m));
    }

    @Override
    public void spoil(int k, int b) {
        doing(x -> x.spoil(k, b));
    }

    @Override
    public int scan() {
        return call(StreamMarks::scan);
    }

    @Override
    public int place() {
        return ask(StreamMarks::place);
    }

    @Override
    public int use(int tile) {
        return call(x -> x.use(tile));
    }

    @Override
    public int head(int tile, int i) {
        return ask(x -> x.head(tile, i));
    }

    @Override
    public int found(int k, int what) {
        return ask(x -> x.found(k, what));
    }
}
