import java.util.Arrays;
import java.util.NoSuchElementException;

/**
 * The marks of a stream of bytes that holds a picture coded by wavelets: written from a plan, and
 * read into one again, with the parts of its tiles; what is no such stream is refused with a number
 * and a place.
 */
public final class StreamMarks {
    private static final int MOST_BYTES = 65536;
    private static final int MOST_COMPONENTS = 16;
    private static final int MOST_TILES = 64;
    private static final int MOST_LAYERS = 255;
    private static final int MOST_PARTS = 256;
    private static final int MOST_CHANGES = 32;
    private static final int MOST_COORDINATE = 0x7fffffff;
    private static final int MOST_LEVELS = 32;
    private static final int MOST_STEPS = 97;
    private static final int MOST_SHIFT = 37;
    private static final int CHANGE_NUMBERS = 6;
    private static final int WHOLE_EXPONENT = 15;

    private static final int START = 79;
    private static final int SIZE = 81;
    private static final int CODING = 82;
    private static final int ITS_CODING = 83;
    private static final int STEPS = 92;
    private static final int ITS_STEPS = 93;
    private static final int SHIFT = 94;
    private static final int CHANGES = 95;
    private static final int HEADS_OF_ALL = 96;
    private static final int HEADS_OF_TILE = 97;
    private static final int PART = 144;
    private static final int DATA = 147;
    private static final int END = 217;

    private static final int CUT = 1;
    private static final int WRONG = 2;
    private static final int LENGTH = 3;
    private static final int TWICE = 4;
    private static final int VALUE = 5;
    private static final int MISSING = 6;
    private static final int GREAT = 7;

    private static final int PART_SEGMENT = 12;
    private static final int LEAST_SPAN = 14;

    private final Plan plan;
    private final Row stream;
    private final Row draft;
    private final Scanner scanner;
    private final Loader loader;
    private boolean scanned;
    private int refusedAt;

    public StreamMarks() {
        plan = new Plan();
        stream = new Row();
        draft = new Row();
        scanner = new Scanner(stream);
        loader = new Loader(stream, scanner.places, plan);
        scanned = false;
        refusedAt = -1;
    }

    public void plan() {
        plan.reset();
    }

    public void picture(int x0, int y0, int x1, int y1) throws IllegalArgumentException {
        if (!Rules.isPicture(x0, y0, x1, y1)) {
            throw new IllegalArgumentException("no picture has these corners");
        }
        plan.setPicture(x0, y0, x1, y1);
        plan.setTiles(0, 0, x1, y1);
    }

    public void tiles(int x, int y, int wide, int high)
            throws IllegalStateException, IllegalArgumentException {
        if (!plan.hasPicture()) {
            throw new IllegalStateException("there is no picture");
        }
        if (!Rules.isTiling(x, y, wide, high, plan.area[0], plan.area[1])) {
            throw new IllegalArgumentException("the first tile misses the picture");
        }
        if (Rules.countTiles(x, y, wide, high, plan.area[2], plan.area[3]) > MOST_TILES) {
            throw new IllegalArgumentException("too many tiles");
        }
        plan.setTiles(x, y, wide, high);
    }

    public int component(int bits, boolean signed, int dx, int dy)
            throws IllegalArgumentException, IllegalStateException {
        if (!Rules.isComponent(bits, dx, dy)) {
            throw new IllegalArgumentException("no component has these numbers");
        }
        if (plan.componentCount >= MOST_COMPONENTS) {
            throw new IllegalStateException("no more components");
        }
        return plan.addComponent(bits, signed, dx, dy);
    }

    public void general(int order, int layers, boolean colour, boolean ahead, boolean behind)
            throws IllegalArgumentException {
        if (!Rules.isOrder(order) || layers < 1 || layers > MOST_LAYERS) {
            throw new IllegalArgumentException("no such order or layers");
        }
        plan.setGeneral(order, layers, colour, ahead, behind);
    }

    public void coding(int c, int levels, int bw, int bh, int style, boolean exact)
            throws NoSuchElementException, IllegalArgumentException {
        Coding its = existing(c).coding;
        if (!Rules.isCoding(levels, bw, bh, style)) {
            throw new IllegalArgumentException("no coding has these numbers");
        }
        its.setBlocks(levels, bw, bh, style, exact);
    }

    public void precincts(int c, int r, int pw, int ph)
            throws NoSuchElementException, IllegalArgumentException {
        Coding its = existing(c).coding;
        if (!Rules.isPrecinct(r, pw, ph)) {
            throw new IllegalArgumentException("no precinct has these exponents");
        }
        its.setPrecinct(r, pw, ph);
    }

    public void steps(int c, int kind, int guard, int shift)
            throws NoSuchElementException, IllegalArgumentException {
        Component its = existing(c);
        if (!Rules.isStepping(kind, guard) || !Rules.isShift(shift)) {
            throw new IllegalArgumentException("no steps have these numbers");
        }
        its.steps.kind = kind;
        its.steps.guard = guard;
        its.shift = shift;
    }

    public void step(int c, int k, int value)
            throws NoSuchElementException, IllegalArgumentException {
        Steps its = existing(c).steps;
        if (k < 0 || k >= MOST_STEPS || value < 0 || value > 65535) {
            throw new IllegalArgumentException("no such value of steps");
        }
        its.setValue(k, value);
    }

    public int change(int level, int component, int layerEnd, int levelEnd, int componentEnd,
            int order) throws IllegalArgumentException, IllegalStateException {
        if (!Rules.isChange(level, component, layerEnd, levelEnd, componentEnd, order)
                || componentEnd > MOST_COMPONENTS || layerEnd > MOST_LAYERS) {
            throw new IllegalArgumentException("no change has these numbers");
        }
        if (plan.changeCount >= MOST_CHANGES) {
            throw new IllegalStateException("no more changes");
        }
        plan.addChange(level, component, layerEnd, levelEnd, componentEnd, order);
        return plan.changeCount;
    }

    public int get(int what, int a, int b) throws NoSuchElementException {
        if (what >= 0 && what <= 14) {
            return plan.number(what);
        }
        if (what >= 20 && what <= 34) {
            return numberOfComponent(what, a, b);
        }
        if (what >= 40 && what <= 45 && a >= 0 && a < plan.changeCount) {
            return plan.numberOfChange(a, what - 40);
        }
        throw new NoSuchElementException("the plan has none such");
    }

    public void clear() {
        stream.clearAll();
        scanned = false;
    }

    public int put(int b) throws IllegalArgumentException, UnsupportedOperationException {
        if (b < 0 || b > 255) {
            throw new IllegalArgumentException("not a byte");
        }
        demandRoom(1);
        stream.addU1(b);
        scanned = false;
        return stream.count;
    }

    public int at(int k) throws NoSuchElementException {
        if (k == -1) {
            return stream.count;
        }
        if (!stream.has(k)) {
            throw new NoSuchElementException("no such byte");
        }
        return stream.u1(k);
    }

    public int write() throws IllegalStateException, UnsupportedOperationException {
        if (!plan.hasPicture() || plan.componentCount == 0) {
            throw new IllegalStateException("there is no picture or component");
        }
        // A draft first: the stream takes all of it or nothing.
        draft.clearAll();
        Writer.writePlan(plan, draft);
        demandRoom(draft.count);
        stream.addRange(draft, 0, draft.count);
        scanned = false;
        return draft.count;
    }

    public void part(int tile, int part, int parts, int bytes)
            throws IllegalArgumentException, UnsupportedOperationException {
        if (tile < 0 || tile > 65535 || part < 0 || part > 255 || parts < 0 || parts > 255
                || bytes < 0 || bytes > MOST_BYTES) {
            throw new IllegalArgumentException("no part has these numbers");
        }
        demandRoom(LEAST_SPAN);
        stream.addSegment(PART, 10);
        stream.addU2(tile);
        stream.addU4(LEAST_SPAN + bytes);
        stream.addU1(part);
        stream.addU1(parts);
        stream.addMark(DATA);
        scanned = false;
    }

    public void mark(int m) throws IllegalArgumentException, UnsupportedOperationException {
        if (m < 0 || m > 255) {
            throw new IllegalArgumentException("not a mark");
        }
        demandRoom(2);
        stream.addMark(m);
        scanned = false;
    }

    public void spoil(int k, int b) throws NoSuchElementException {
        if (!stream.has(k)) {
            throw new NoSuchElementException("no such byte");
        }
        stream.setU1(k, b);
        scanned = false;
    }

    public int scan() {
        int refused = scanner.refusal();
        scanned = refused == 0;
        refusedAt = scanned ? -1 : scanner.here;
        if (scanned) {
            loader.loadMain();
        }
        return refused;
    }

    public int place() {
        return refusedAt;
    }

    public int use(int tile) throws IllegalStateException, NoSuchElementException {
        demandTile(tile);
        loader.loadTile(tile);
        return scanner.parts.headsOfTile(tile);
    }

    public int head(int tile, int i) throws IllegalStateException, NoSuchElementException {
        demandTile(tile);
        int k = scanner.parts.placeOfHead(tile, i);
        if (!scanner.heads.has(k)) {
            throw new NoSuchElementException("no such byte of heads");
        }
        return scanner.heads.u1(k);
    }

    public int found(int k, int what) throws IllegalStateException, NoSuchElementException {
        if (!scanned) {
            throw new IllegalStateException("the stream is not scanned");
        }
        if (k == -1) {
            return scanner.parts.count;
        }
        if (k < 0 || k >= scanner.parts.count || what < 0 || what > 4) {
            throw new NoSuchElementException("no such part");
        }
        return scanner.parts.number(k, what);
    }

    private Component existing(int c) {
        Component its = plan.componentOrNull(c);
        if (its == null) {
            throw new NoSuchElementException("no such component");
        }
        return its;
    }

    private int numberOfComponent(int what, int a, int b) {
        Component its = existing(a);
        boolean ofLevel = what == 32 || what == 33;
        if (ofLevel && (b < 0 || b > MOST_LEVELS)) {
            throw new NoSuchElementException("no such level");
        }
        if (what == 34 && (b < 0 || b >= MOST_STEPS)) {
            throw new NoSuchElementException("no such value of steps");
        }
        return its.number(what, b);
    }

    private void demandRoom(int bytes) {
        if (bytes > MOST_BYTES - stream.count) {
            throw new UnsupportedOperationException("the stream is full");
        }
    }

    private void demandTile(int tile) {
        if (!scanned) {
            throw new IllegalStateException("the stream is not scanned");
        }
        if (tile < 0 || tile >= scanner.tileCount) {
            throw new NoSuchElementException("no such tile");
        }
    }

    /** What is a value, for the calls that make a plan and for the scan alike. */
    private static final class Rules {
        static boolean isPicture(long x0, long y0, long x1, long y1) {
            return x0 >= 0 && x0 < x1 && x1 <= MOST_COORDINATE
                    && y0 >= 0 && y0 < y1 && y1 <= MOST_COORDINATE;
        }

        static boolean isTiling(long x, long y, long wide, long high, long x0, long y0) {
            return isTilingAlong(x, wide, x0) && isTilingAlong(y, high, y0);
        }

        private static boolean isTilingAlong(long from, long width, long first) {
            return from >= 0 && from <= first && width >= 1 && width <= MOST_COORDINATE
                    && from + width > first;
        }

        static long countTiles(long x, long y, long wide, long high, long x1, long y1) {
            return countAlong(x, wide, x1) * countAlong(y, high, y1);
        }

        private static long countAlong(long from, long width, long end) {
            return width < 1 ? 0 : (end - from + width - 1) / width;
        }

        static boolean isComponent(int bits, int dx, int dy) {
            return bits >= 1 && bits <= 38 && dx >= 1 && dx <= 255 && dy >= 1 && dy <= 255;
        }

        static boolean isOrder(int order) {
            return order >= 0 && order <= 4;
        }

        static boolean isCoding(int levels, int bw, int bh, int style) {
            return levels >= 0 && levels <= MOST_LEVELS && bw >= 2 && bw <= 10
                    && bh >= 2 && bh <= 10 && bw + bh <= 12 && style >= 0 && style < 64;
        }

        static boolean isPrecinct(int r, int pw, int ph) {
            int least = r == 0 ? 0 : 1;
            return r >= 0 && r <= MOST_LEVELS && pw >= least && pw <= WHOLE_EXPONENT
                    && ph >= least && ph <= WHOLE_EXPONENT;
        }

        static boolean isStepping(int kind, int guard) {
            return kind >= 0 && kind <= 2 && guard >= 0 && guard <= 7;
        }

        static boolean isShift(int shift) {
            return shift >= 0 && shift <= MOST_SHIFT;
        }

        static boolean isChange(int level, int component, int layerEnd, int levelEnd,
                int componentEnd, int order) {
            return level >= 0 && level < levelEnd && levelEnd <= MOST_LEVELS + 1
                    && component >= 0 && component < componentEnd && componentEnd <= 256
                    && layerEnd >= 1 && isOrder(order);
        }
    }

    /** A row of bytes that grows: twice the room each time, so that short streams stay cheap. */
    private static final class Row {
        private byte[] bytes = new byte[256];
        private int count = 0;

        boolean has(int k) {
            return k >= 0 && k < count;
        }

        int u1(int k) {
            return k >= 0 && k < count ? bytes[k] & 255 : 0;
        }

        int u2(int k) {
            return k >= 0 && k < count - 1 ? (bytes[k] & 255) << 8 | bytes[k + 1] & 255 : 0;
        }

        long u4(int k) {
            return (long) u2(k) << 16 | u2(k + 2);
        }

        void setU1(int k, int b) {
            if (k >= 0 && k < count) {
                bytes[k] = (byte) b;
            }
        }

        void clearAll() {
            count = 0;
        }

        void addU1(int b) {
            if (count >= bytes.length && bytes.length < MOST_BYTES) {
                bytes = Arrays.copyOf(bytes, 2 * bytes.length);
            }
            if (count < bytes.length) {
                bytes[count] = (byte) b;
                count++;
            }
        }

        void addU2(int number) {
            addU1(number >> 8);
            addU1(number);
        }

        void addU4(int number) {
            addU2(number >> 16);
            addU2(number);
        }

        void addMark(int m) {
            addU1(255);
            addU1(m);
        }

        void addSegment(int m, int length) {
            addMark(m);
            addU2(length);
        }

        void addRange(Row from, int first, int howMany) {
            for (int i = 0; i < howMany; i++) {
                addU1(from.u1(first + i));
            }
        }
    }

    /** How one component is coded: its levels, blocks, style and precincts. */
    private static final class Coding {
        private int levels;
        private int bw;
        private int bh;
        private int style;
        private boolean exact;
        private final int[] pw = new int[MOST_LEVELS + 1];
        private final int[] ph = new int[MOST_LEVELS + 1];

        void reset() {
            setBlocks(0, 6, 6, 0, true);
            resetPrecincts();
        }

        void resetPrecincts() {
            Arrays.fill(pw, WHOLE_EXPONENT);
            Arrays.fill(ph, WHOLE_EXPONENT);
        }

        void setBlocks(int newLevels, int newBw, int newBh, int newStyle, boolean isExact) {
            levels = newLevels;
            bw = newBw;
            bh = newBh;
            style = newStyle;
            exact = isExact;
        }

        void setPrecinct(int r, int newPw, int newPh) {
            if (r >= 0 && r < pw.length && r < ph.length) {
                pw[r] = newPw;
                ph[r] = newPh;
            }
        }

        int pwOf(int r) {
            return r >= 0 && r < pw.length ? pw[r] : WHOLE_EXPONENT;
        }

        int phOf(int r) {
            return r >= 0 && r < ph.length ? ph[r] : WHOLE_EXPONENT;
        }

        boolean tellsPrecincts() {
            for (int r = 0; r <= levels; r++) {
                if (pwOf(r) != WHOLE_EXPONENT || phOf(r) != WHOLE_EXPONENT) {
                    return true;
                }
            }
            return false;
        }

        boolean isLike(Coding other) {
            if (levels != other.levels || bw != other.bw || bh != other.bh
                    || style != other.style || exact != other.exact) {
                return false;
            }
            for (int r = 0; r <= levels; r++) {
                if (pwOf(r) != other.pwOf(r) || phOf(r) != other.phOf(r)) {
                    return false;
                }
            }
            return true;
        }
    }

    /** The steps of one component. */
    private static final class Steps {
        private int kind;
        private int guard;
        private final int[] values = new int[MOST_STEPS];

        void reset() {
            kind = 0;
            guard = 2;
            resetValues();
        }

        void resetValues() {
            Arrays.fill(values, 0);
        }

        void setValue(int k, int value) {
            if (k >= 0 && k < values.length) {
                values[k] = value;
            }
        }

        int valueOf(int k) {
            return k >= 0 && k < values.length ? values[k] : 0;
        }

        int countWritten(int levels) {
            return kind == 1 ? 1 : 3 * levels + 1;
        }

        int written(int k) {
            return kind == 0 ? valueOf(k) >> 8 : valueOf(k);
        }
    }

    /** One component of a plan. */
    private static final class Component {
        private int bits;
        private boolean signed;
        private int dx;
        private int dy;
        private int shift;
        private final Coding coding = new Coding();
        private final Steps steps = new Steps();

        void reset(int newBits, boolean isSigned, int newDx, int newDy) {
            bits = newBits;
            signed = isSigned;
            dx = newDx;
            dy = newDy;
            shift = 0;
            coding.reset();
            steps.reset();
        }

        int number(int what, int b) {
            switch (what) {
                case 20: return bits;
                case 21: return signed ? 1 : 0;
                case 22: return dx;
                case 23: return dy;
                case 24: return coding.levels;
                case 25: return coding.bw;
                case 26: return coding.bh;
                case 27: return coding.style;
                case 28: return coding.exact ? 1 : 0;
                case 29: return steps.kind;
                case 30: return steps.guard;
                case 31: return shift;
                case 32: return coding.pwOf(b);
                case 33: return coding.phOf(b);
                default: return steps.valueOf(b);
            }
        }

        /** Whether a segment of steps would hold the same bytes for both. */
        boolean writesStepsLike(Component other) {
            int count = steps.countWritten(coding.levels);
            if (steps.kind != other.steps.kind || steps.guard != other.steps.guard
                    || count != other.steps.countWritten(other.coding.levels)) {
                return false;
            }
            for (int k = 0; k < count; k++) {
                if (steps.written(k) != other.steps.written(k)) {
                    return false;
                }
            }
            return true;
        }
    }

    /** A plan; its rows are made once and used again. */
    private static final class Plan {
        /** x0, y0, x1, y1 of the picture, then x, y, wide, high of the tiles. */
        private final int[] area = new int[8];
        private final Component[] components = new Component[MOST_COMPONENTS];
        private int componentCount;
        private int order;
        private int layers;
        private boolean colour;
        private boolean ahead;
        private boolean behind;
        private final int[] changes = new int[MOST_CHANGES * CHANGE_NUMBERS];
        private int changeCount;

        Plan() {
            for (int c = 0; c < components.length; c++) {
                components[c] = new Component();
            }
            reset();
        }

        void reset() {
            Arrays.fill(area, 0);
            componentCount = 0;
            changeCount = 0;
            setGeneral(0, 1, false, false, false);
        }

        boolean hasPicture() {
            return area[2] > 0;
        }

        void setPicture(int x0, int y0, int x1, int y1) {
            area[0] = x0;
            area[1] = y0;
            area[2] = x1;
            area[3] = y1;
        }

        void setTiles(int x, int y, int wide, int high) {
            area[4] = x;
            area[5] = y;
            area[6] = wide;
            area[7] = high;
        }

        void setGeneral(int newOrder, int newLayers, boolean hasColour, boolean isAhead,
                boolean isBehind) {
            order = newOrder;
            layers = newLayers;
            colour = hasColour;
            ahead = isAhead;
            behind = isBehind;
        }

        Component componentOrNull(int c) {
            return c >= 0 && c < componentCount && c < components.length ? components[c] : null;
        }

        int addComponent(int bits, boolean signed, int dx, int dy) {
            int c = componentCount;
            if (c >= 0 && c < components.length && components[c] != null) {
                components[c].reset(bits, signed, dx, dy);
                componentCount = c + 1;
            }
            return c;
        }

        void addChange(int level, int component, int layerEnd, int levelEnd, int componentEnd,
                int itsOrder) {
            int first = changeCount * CHANGE_NUMBERS;
            if (first >= 0 && first <= changes.length - CHANGE_NUMBERS) {
                changes[first] = level;
                changes[first + 1] = component;
                changes[first + 2] = layerEnd;
                changes[first + 3] = levelEnd;
                changes[first + 4] = componentEnd;
                changes[first + 5] = itsOrder;
                changeCount++;
            }
        }

        int numberOfChange(int a, int i) {
            int k = a * CHANGE_NUMBERS + i;
            return k >= 0 && k < changes.length ? changes[k] : 0;
        }

        int number(int what) {
            if (what >= 0 && what < area.length) {
                return area[what];
            }
            switch (what) {
                case 8: return componentCount;
                case 9: return order;
                case 10: return layers;
                case 11: return colour ? 1 : 0;
                case 12: return ahead ? 1 : 0;
                case 13: return behind ? 1 : 0;
                default: return changeCount;
            }
        }
    }

    /** Writes START and the main segments of a plan. */
    private static final class Writer {
        static void writePlan(Plan plan, Row out) {
            Component first = plan.componentOrNull(0);
            if (first == null) {
                return;
            }
            out.addMark(START);
            writeSize(plan, out);
            writeCodingOfAll(plan, first.coding, out);
            out.addSegment(STEPS, 2 + stepBytes(first));
            writeSteps(first, out);
            writeOtherCodings(plan, first, out);
            writeOtherSteps(plan, first, out);
            writeShifts(plan, out);
            writeChanges(plan, out);
        }

        private static void writeSize(Plan plan, Row out) {
            out.addSegment(SIZE, 38 + 3 * plan.componentCount);
            out.addU2(0);
            out.addU4(plan.area[2]);
            out.addU4(plan.area[3]);
            out.addU4(plan.area[0]);
            out.addU4(plan.area[1]);
            out.addU4(plan.area[6]);
            out.addU4(plan.area[7]);
            out.addU4(plan.area[4]);
            out.addU4(plan.area[5]);
            out.addU2(plan.componentCount);
            for (int c = 0; c < plan.componentCount; c++) {
                Component its = plan.componentOrNull(c);
                if (its != null) {
                    out.addU1(its.bits - 1 + (its.signed ? 128 : 0));
                    out.addU1(its.dx);
                    out.addU1(its.dy);
                }
            }
        }

        private static void writeCodingOfAll(Plan plan, Coding coding, Row out) {
            int flags = (coding.tellsPrecincts() ? 1 : 0) + (plan.ahead ? 2 : 0)
                    + (plan.behind ? 4 : 0);
            out.addSegment(CODING, 7 + bodyBytes(coding));
            out.addU1(flags);
            out.addU1(plan.order);
            out.addU2(plan.layers);
            out.addU1(plan.colour ? 1 : 0);
            writeBody(coding, out);
        }

        private static int bodyBytes(Coding coding) {
            return 5 + (coding.tellsPrecincts() ? coding.levels + 1 : 0);
        }

        private static void writeBody(Coding coding, Row out) {
            out.addU1(coding.levels);
            out.addU1(coding.bw - 2);
            out.addU1(coding.bh - 2);
            out.addU1(coding.style);
            out.addU1(coding.exact ? 1 : 0);
            if (coding.tellsPrecincts()) {
                for (int r = 0; r <= coding.levels; r++) {
                    out.addU1(coding.pwOf(r) + 16 * coding.phOf(r));
                }
            }
        }

        private static int stepBytes(Component its) {
            int count = its.steps.countWritten(its.coding.levels);
            return 1 + (its.steps.kind == 0 ? count : 2 * count);
        }

        private static void writeSteps(Component its, Row out) {
            Steps steps = its.steps;
            int count = steps.countWritten(its.coding.levels);
            out.addU1(steps.kind + 32 * steps.guard);
            for (int k = 0; k < count; k++) {
                if (steps.kind == 0) {
                    out.addU1(steps.written(k));
                } else {
                    out.addU2(steps.written(k));
                }
            }
        }

        private static void writeOtherCodings(Plan plan, Component first, Row out) {
            for (int c = 1; c < plan.componentCount; c++) {
                Component its = plan.componentOrNull(c);
                if (its != null && !its.coding.isLike(first.coding)) {
                    out.addSegment(ITS_CODING, 4 + bodyBytes(its.coding));
                    out.addU1(c);
                    out.addU1(its.coding.tellsPrecincts() ? 1 : 0);
                    writeBody(its.coding, out);
                }
            }
        }

        private static void writeOtherSteps(Plan plan, Component first, Row out) {
            for (int c = 1; c < plan.componentCount; c++) {
                Component its = plan.componentOrNull(c);
                if (its != null && !its.writesStepsLike(first)) {
                    out.addSegment(ITS_STEPS, 3 + stepBytes(its));
                    out.addU1(c);
                    writeSteps(its, out);
                }
            }
        }

        private static void writeShifts(Plan plan, Row out) {
            for (int c = 0; c < plan.componentCount; c++) {
                Component its = plan.componentOrNull(c);
                if (its != null && its.shift != 0) {
                    out.addSegment(SHIFT, 5);
                    out.addU1(c);
                    out.addU1(0);
                    out.addU1(its.shift);
                }
            }
        }

        private static void writeChanges(Plan plan, Row out) {
            if (plan.changeCount == 0) {
                return;
            }
            out.addSegment(CHANGES, 2 + 7 * plan.changeCount);
            for (int a = 0; a < plan.changeCount; a++) {
                out.addU1(plan.numberOfChange(a, 0));
                out.addU1(plan.numberOfChange(a, 1));
                out.addU2(plan.numberOfChange(a, 2));
                out.addU1(plan.numberOfChange(a, 3));
                // An end of 256, which a scan may have read, becomes the 0 that it was.
                out.addU1(plan.numberOfChange(a, 4));
                out.addU1(plan.numberOfChange(a, 5));
            }
        }
    }

    /**
     * Where the segments stand that a plan is made of: the main ones (owner 0), and those of each
     * tile. No segment stands at place 0, so 0 says that there is none.
     */
    private static final class Places {
        private static final int SLOTS = 3 + 3 * MOST_COMPONENTS;

        private final int[] starts = new int[(1 + MOST_TILES) * SLOTS];

        static int ownerOf(int tile) {
            return 1 + tile;
        }

        void forget(int owner) {
            if (owner < 0 || owner > MOST_TILES) {
                return;
            }
            int first = owner * SLOTS;
            for (int k = first; k < first + SLOTS && k < starts.length; k++) {
                starts[k] = 0;
            }
        }

        void keep(int owner, int mark, int component, int start) {
            int k = indexOf(owner, mark, component);
            if (k >= 0 && k < starts.length) {
                starts[k] = start;
            }
        }

        int startOf(int owner, int mark, int component) {
            int k = indexOf(owner, mark, component);
            return k >= 0 && k < starts.length ? starts[k] : 0;
        }

        private static int indexOf(int owner, int mark, int component) {
            if (owner < 0 || owner > MOST_TILES || component < 0 || component >= MOST_COMPONENTS) {
                return -1;
            }
            int first = owner * SLOTS;
            switch (mark) {
                case CODING: return first;
                case STEPS: return first + 1;
                case CHANGES: return first + 2;
                case ITS_CODING: return first + 3 + component;
                case ITS_STEPS: return first + 3 + MOST_COMPONENTS + component;
                case SHIFT: return first + 3 + 2 * MOST_COMPONENTS + component;
                default: return -1;
            }
        }
    }

    /** The parts that a scan found, in order, and what it counts of each tile. */
    private static final class Parts {
        private static final int NUMBERS = 7;
        private static final int TILE = 0;
        private static final int TOLD_PARTS = 2;
        private static final int FIRST_BYTE = 3;
        private static final int BYTES = 4;
        private static final int FIRST_HEAD = 5;
        private static final int HEADS = 6;

        private final int[] numbers = new int[MOST_PARTS * NUMBERS];
        private int count;
        private final int[] partsHad = new int[MOST_TILES];
        private final int[] partsTold = new int[MOST_TILES];
        private final int[] headSegments = new int[MOST_TILES];

        void forgetAll() {
            count = 0;
            Arrays.fill(partsHad, 0);
            Arrays.fill(partsTold, 0);
            Arrays.fill(headSegments, 0);
        }

        int number(int k, int what) {
            int i = k * NUMBERS + what;
            return i >= 0 && i < numbers.length ? numbers[i] : 0;
        }

        private void setNumber(int k, int what, int number) {
            int i = k * NUMBERS + what;
            if (i >= 0 && i < numbers.length) {
                numbers[i] = number;
            }
        }

        private static boolean isTile(int tile) {
            return tile >= 0 && tile < MOST_TILES;
        }

        boolean mayFollow(int tile, int part, int parts) {
            if (!isTile(tile) || part != partsHad[tile]) {
                return false;
            }
            return parts == 0
                    || parts > part && (partsTold[tile] == 0 || partsTold[tile] == parts);
        }

        void add(int tile, int part, int parts, int firstHead) {
            if (!isTile(tile) || count >= MOST_PARTS) {
                return;
            }
            setNumber(count, TILE, tile);
            setNumber(count, 1, part);
            setNumber(count, TOLD_PARTS, parts);
            setNumber(count, FIRST_HEAD, firstHead);
            setNumber(count, HEADS, 0);
            count++;
            partsHad[tile]++;
            if (parts != 0) {
                partsTold[tile] = parts;
            }
        }

        void setBytesOfLast(int firstByte, int bytes) {
            setNumber(count - 1, FIRST_BYTE, firstByte);
            setNumber(count - 1, BYTES, bytes);
        }

        int headSegmentsOf(int tile) {
            return isTile(tile) ? headSegments[tile] : 0;
        }

        void addHeadsToLast(int bytes) {
            int last = count - 1;
            int tile = number(last, TILE);
            setNumber(last, HEADS, number(last, HEADS) + bytes);
            if (isTile(tile)) {
                headSegments[tile]++;
            }
        }

        void setHeads(int k, int firstHead, int bytes) {
            setNumber(k, FIRST_HEAD, firstHead);
            setNumber(k, HEADS, bytes);
        }

        boolean areComplete(int tileCount) {
            for (int tile = 0; tile < tileCount && tile < MOST_TILES; tile++) {
                if (partsHad[tile] == 0
                        || partsTold[tile] != 0 && partsTold[tile] != partsHad[tile]) {
                    return false;
                }
            }
            return true;
        }

        int headsOfTile(int tile) {
            int sum = 0;
            for (int k = 0; k < count; k++) {
                if (number(k, TILE) == tile) {
                    sum += number(k, HEADS);
                }
            }
            return sum;
        }

        /** Where byte i of a tile's heads stands in the row of all heads; -1 if there is none. */
        int placeOfHead(int tile, int i) {
            int left = i;
            for (int k = 0; k < count && left >= 0; k++) {
                if (number(k, TILE) == tile) {
                    if (left < number(k, HEADS)) {
                        return number(k, FIRST_HEAD) + left;
                    }
                    left -= number(k, HEADS);
                }
            }
            return -1;
        }
    }

    /** Goes through a stream mark by mark; keeps where the segments are, the parts and heads. */
    private static final class Scanner {
        private static final int AT_START = 0;
        private static final int AT_SIZE = 1;
        private static final int AMONG_MAIN = 2;
        private static final int IN_PART = 3;
        private static final int BEHIND_PART = 4;
        private static final int ENDED = 5;
        private static final int NO_MARK = -1;

        private final Row stream;
        private final Row heads = new Row();
        private final Places places = new Places();
        private final Parts parts = new Parts();
        private int state;
        private int here;
        private int end;
        private int mark;
        private int length;
        private int componentCount;
        private int tileCount;
        private int mainHeadSegments;
        private int tile;
        private boolean inFirstPart;

        Scanner(Row itsStream) {
            stream = itsStream;
        }

        /** 0, or the number by which the mark at 'here' refuses the stream. */
        int refusal() {
            begin();
            int refused = 0;
            // Each mark takes two bytes or more, so there are never as many as bytes.
            for (int n = 0; n <= MOST_BYTES && refused == 0 && state != ENDED; n++) {
                refused = refusalHere();
                if (refused == 0) {
                    takeMark();
                }
            }
            return refused;
        }

        private void begin() {
            state = AT_START;
            here = 0;
            end = stream.count;
            componentCount = 0;
            tileCount = 0;
            mainHeadSegments = 0;
            heads.clearAll();
            places.forget(0);
            parts.forgetAll();
        }

        private int refusalHere() {
            if (readsCutMark()) {
                return CUT;
            }
            if (isWrong()) {
                return WRONG;
            }
            if (!hasLength()) {
                return LENGTH;
            }
            if (isGreat()) {
                return GREAT;
            }
            if (!hasValues()) {
                return VALUE;
            }
            if (places.startOf(owner(), mark, toldComponent()) != 0) {
                return TWICE;
            }
            if (mark == PART && spanIsCut()) {
                return CUT;
            }
            return isMissing() ? MISSING : 0;
        }

        private boolean readsCutMark() {
            mark = NO_MARK;
            length = 0;
            if (end - here < 2) {
                return true;
            }
            if (stream.u1(here) != 255) {
                return false;
            }
            mark = stream.u1(here + 1);
            if (!hasSegment()) {
                return false;
            }
            if (end - here < 4) {
                return true;
            }
            length = stream.u2(here + 2);
            return end - here - 2 < length;
        }

        private boolean hasSegment() {
            switch (mark) {
                case START:
                case DATA:
                case END:
                case 146:
                    return false;
                default:
                    return mark < 48 || mark > 63;
            }
        }

        private boolean isWrong() {
            switch (state) {
                case AT_START: return mark != START;
                case AT_SIZE: return mark != SIZE;
                case AMONG_MAIN: return isWrongAmongMain();
                case IN_PART: return isWrongInPart();
                default: return mark != PART && mark != END;
            }
        }

        private boolean isWrongAmongMain() {
            switch (mark) {
                case NO_MARK:
                case START:
                case SIZE:
                case DATA:
                case 146:
                case 88:
                case HEADS_OF_TILE:
                    return true;
                default:
                    return false;
            }
        }

        private boolean isWrongInPart() {
            switch (mark) {
                case NO_MARK:
                case START:
                case SIZE:
                case PART:
                case END:
                case 146:
                case 85:
                case 87:
                case HEADS_OF_ALL:
                case 99:
                    return true;
                case CODING:
                case ITS_CODING:
                case STEPS:
                case ITS_STEPS:
                case SHIFT:
                case CHANGES:
                    return !inFirstPart;
                case HEADS_OF_TILE:
                    return mainHeadSegments > 0;
                default:
                    return false;
            }
        }

        private boolean hasLength() {
            switch (mark) {
                case SIZE:
                    return length >= 38 && length == 38 + 3 * told2(34);
                case CODING:
                    return length >= 12 && length == 12 + precinctBytes(told(0), told(5));
                case ITS_CODING:
                    return length >= 9 && length == 9 + precinctBytes(told(1), told(2));
                case STEPS:
                    return hasLengthOfSteps(0);
                case ITS_STEPS:
                    return hasLengthOfSteps(1);
                case SHIFT:
                    return length == 5;
                case CHANGES:
                    return length >= 2 && (length - 2) % 7 == 0;
                case HEADS_OF_ALL:
                case HEADS_OF_TILE:
                    return length >= 3;
                case PART:
                    return length == 10;
                default:
                    return length >= 2 || !hasSegment();
            }
        }

        private static int precinctBytes(int flags, int levels) {
            return (flags & 1) != 0 ? levels + 1 : 0;
        }

        private boolean hasLengthOfSteps(int k) {
            int bytes = length - 3 - k;
            if (bytes < 0) {
                return false;
            }
            switch (told(k) & 31) {
                case 0: return isCountOfSteps(bytes);
                case 1: return bytes == 2;
                case 2: return bytes % 2 == 0 && isCountOfSteps(bytes / 2);
                default: return true;
            }
        }

        private static boolean isCountOfSteps(int count) {
            return count <= MOST_STEPS && count % 3 == 1;
        }

        private boolean isGreat() {
            switch (mark) {
                case SIZE:
                    return told2(34) > MOST_COMPONENTS || hasArea() && toldTiles() > MOST_TILES;
                case CODING:
                    return told2(2) > MOST_LAYERS;
                case CHANGES:
                    return length - 2 > 7 * MOST_CHANGES;
                case PART:
                    return parts.count >= MOST_PARTS;
                default:
                    return false;
            }
        }

        private boolean hasValues() {
            switch (mark) {
                case SIZE:
                    return hasArea() && hasComponents();
                case CODING:
                    return told(0) <= 7 && Rules.isOrder(told(1)) && told2(2) >= 1 && told(4) <= 1
                            && hasBody(5, (told(0) & 1) != 0);
                case ITS_CODING:
                    return told(0) < componentCount && told(1) <= 1
                            && hasBody(2, (told(1) & 1) != 0);
                case STEPS:
                    return Rules.isStepping(told(0) & 31, told(0) >> 5);
                case ITS_STEPS:
                    return told(0) < componentCount
                            && Rules.isStepping(told(1) & 31, told(1) >> 5);
                case SHIFT:
                    return told(0) < componentCount && told(1) == 0 && Rules.isShift(told(2));
                case CHANGES:
                    return hasChanges();
                case HEADS_OF_ALL:
                    return told(0) == mainHeadSegments;
                case HEADS_OF_TILE:
                    return told(0) == parts.headSegmentsOf(tile);
                case PART:
                    return told2(0) < tileCount && (span() == 0 || span() >= LEAST_SPAN)
                            && parts.mayFollow(told2(0), told(6), told(7));
                default:
                    return true;
            }
        }

        private boolean hasArea() {
            long x0 = stream.u4(here + 14);
            long y0 = stream.u4(here + 18);
            return Rules.isPicture(x0, y0, stream.u4(here + 6), stream.u4(here + 10))
                    && Rules.isTiling(stream.u4(here + 30), stream.u4(here + 34),
                            stream.u4(here + 22), stream.u4(here + 26), x0, y0);
        }

        private long toldTiles() {
            return Rules.countTiles(stream.u4(here + 30), stream.u4(here + 34),
                    stream.u4(here + 22), stream.u4(here + 26),
                    stream.u4(here + 6), stream.u4(here + 10));
        }

        private boolean hasComponents() {
            int count = told2(34);
            for (int c = 0; c < count; c++) {
                int k = 36 + 3 * c;
                if (!Rules.isComponent((told(k) & 127) + 1, told(k + 1), told(k + 2))) {
                    return false;
                }
            }
            return count >= 1;
        }

        private boolean hasBody(int k, boolean tellsPrecincts) {
            int levels = told(k);
            if (!Rules.isCoding(levels, told(k + 1) + 2, told(k + 2) + 2, told(k + 3))
                    || told(k + 4) > 1) {
                return false;
            }
            for (int r = 0; tellsPrecincts && r <= levels; r++) {
                int both = told(k + 5 + r);
                if (!Rules.isPrecinct(r, both & 15, both >> 4)) {
                    return false;
                }
            }
            return true;
        }

        private boolean hasChanges() {
            int count = (length - 2) / 7;
            for (int a = 0; a < count; a++) {
                int k = 7 * a;
                int componentEnd = told(k + 5) == 0 ? 256 : told(k + 5);
                if (!Rules.isChange(told(k), told(k + 1), told2(k + 2), told(k + 4), componentEnd,
                        told(k + 6))) {
                    return false;
                }
            }
            return true;
        }

        private boolean spanIsCut() {
            if (span() == 0) {
                int last = stream.count - 2;
                return last - here < PART_SEGMENT
                        || stream.u1(last) != 255 || stream.u1(last + 1) != END;
            }
            return span() > stream.count - here;
        }

        private boolean isMissing() {
            boolean endsMain = state == AMONG_MAIN && (mark == PART || mark == END);
            if (endsMain && (places.startOf(0, CODING, 0) == 0
                    || places.startOf(0, STEPS, 0) == 0)) {
                return true;
            }
            return mark == END && !parts.areComplete(tileCount);
        }

        private void takeMark() {
            int next = here + 2 + length;
            switch (mark) {
                case START:
                    state = AT_SIZE;
                    break;
                case SIZE:
                    componentCount = told2(34);
                    tileCount = (int) toldTiles();
                    state = AMONG_MAIN;
                    break;
                case PART:
                    takePart();
                    break;
                case DATA:
                    parts.setBytesOfLast(next, end - next);
                    next = end;
                    end = stream.count;
                    state = BEHIND_PART;
                    break;
                case END:
                    if (mainHeadSegments > 0) {
                        dealHeads();
                    }
                    state = ENDED;
                    break;
                default:
                    takeSegment();
                    break;
            }
            here = next;
        }

        private void takePart() {
            tile = told2(0);
            inFirstPart = told(6) == 0;
            parts.add(tile, told(6), told(7), heads.count);
            if (inFirstPart) {
                places.forget(Places.ownerOf(tile));
            }
            end = span() == 0 ? stream.count - 2 : here + (int) span();
            state = IN_PART;
        }

        private void takeSegment() {
            if (mark == HEADS_OF_ALL) {
                heads.addRange(stream, here + 5, length - 3);
                mainHeadSegments++;
            } else if (mark == HEADS_OF_TILE) {
                heads.addRange(stream, here + 5, length - 3);
                parts.addHeadsToLast(length - 3);
            } else {
                places.keep(owner(), mark, toldComponent(), here);
            }
        }

        /** Gives each part its share of the heads of all. */
        private void dealHeads() {
            int k = 0;
            for (int part = 0; part < parts.count; part++) {
                int bytes = 0;
                if (heads.count - k >= 4) {
                    long wanted = heads.u4(k);
                    k += 4;
                    bytes = (int) Math.min(wanted, heads.count - k);
                }
                parts.setHeads(part, k, bytes);
                k += bytes;
            }
        }

        private int owner() {
            return state == IN_PART ? Places.ownerOf(tile) : 0;
        }

        private int toldComponent() {
            return mark == ITS_CODING || mark == ITS_STEPS || mark == SHIFT ? told(0) : 0;
        }

        private int told(int k) {
            return stream.u1(here + 4 + k);
        }

        private int told2(int k) {
            return stream.u2(here + 4 + k);
        }

        private long span() {
            return stream.u4(here + 6);
        }
    }

    /** Makes a plan of the segments of a scanned stream. */
    private static final class Loader {
        private final Row stream;
        private final Places places;
        private final Plan plan;

        Loader(Row itsStream, Places itsPlaces, Plan itsPlan) {
            stream = itsStream;
            places = itsPlaces;
            plan = itsPlan;
        }

        void loadMain() {
            plan.reset();
            // SIZE stands behind START, and its content behind its mark and length.
            loadSize(2 + 4);
            loadOwner(0);
        }

        void loadTile(int tile) {
            loadMain();
            loadOwner(Places.ownerOf(tile));
        }

        private void loadSize(int k) {
            plan.setPicture(number4(k + 10), number4(k + 14), number4(k + 2), number4(k + 6));
            plan.setTiles(number4(k + 26), number4(k + 30), number4(k + 18), number4(k + 22));
            int count = stream.u2(k + 34);
            for (int c = 0; c < count; c++) {
                int its = k + 36 + 3 * c;
                int bits = stream.u1(its);
                plan.addComponent((bits & 127) + 1, bits >= 128, stream.u1(its + 1),
                        stream.u1(its + 2));
            }
        }

        private int number4(int k) {
            return (int) stream.u4(k);
        }

        private void loadOwner(int owner) {
            int codingOfAll = places.startOf(owner, CODING, 0);
            if (codingOfAll != 0) {
                loadGeneral(codingOfAll + 4);
            }
            for (int c = 0; c < plan.componentCount; c++) {
                Component its = plan.componentOrNull(c);
                if (its != null) {
                    loadCoding(its.coding, codingOfAll, places.startOf(owner, ITS_CODING, c));
                    loadSteps(its.steps, places.startOf(owner, STEPS, 0),
                            places.startOf(owner, ITS_STEPS, c));
                    loadShift(its, places.startOf(owner, SHIFT, c));
                }
            }
            loadChanges(places.startOf(owner, CHANGES, 0));
        }

        private void loadGeneral(int k) {
            int flags = stream.u1(k);
            plan.setGeneral(stream.u1(k + 1), stream.u2(k + 2), stream.u1(k + 4) == 1,
                    (flags & 2) != 0, (flags & 4) != 0);
        }

        private void loadCoding(Coding coding, int ofAll, int ofIt) {
            if (ofIt != 0) {
                loadBody(coding, ofIt + 6, stream.u1(ofIt + 5));
            } else if (ofAll != 0) {
                loadBody(coding, ofAll + 9, stream.u1(ofAll + 4));
            }
        }

        private void loadBody(Coding coding, int k, int flags) {
            int levels = stream.u1(k);
            coding.setBlocks(levels, stream.u1(k + 1) + 2, stream.u1(k + 2) + 2,
                    stream.u1(k + 3), stream.u1(k + 4) == 1);
            coding.resetPrecincts();
            for (int r = 0; (flags & 1) != 0 && r <= levels; r++) {
                int both = stream.u1(k + 5 + r);
                coding.setPrecinct(r, both & 15, both >> 4);
            }
        }

        private void loadSteps(Steps steps, int ofAll, int ofIt) {
            if (ofIt != 0) {
                loadValues(steps, ofIt + 5, stream.u2(ofIt + 2) - 4);
            } else if (ofAll != 0) {
                loadValues(steps, ofAll + 4, stream.u2(ofAll + 2) - 3);
            }
        }

        private void loadValues(Steps steps, int k, int bytes) {
            int both = stream.u1(k);
            steps.kind = both & 31;
            steps.guard = both >> 5;
            steps.resetValues();
            int count = steps.kind == 0 ? bytes : bytes / 2;
            for (int i = 0; i < count; i++) {
                int value = steps.kind == 0 ? stream.u1(k + 1 + i) * 256
                        : stream.u2(k + 1 + 2 * i);
                steps.setValue(i, value);
            }
        }

        private void loadShift(Component its, int start) {
            if (start != 0) {
                its.shift = stream.u1(start + 6);
            }
        }

        private void loadChanges(int start) {
            if (start == 0) {
                return;
            }
            int count = (stream.u2(start + 2) - 2) / 7;
            plan.changeCount = 0;
            for (int a = 0; a < count; a++) {
                int k = start + 4 + 7 * a;
                int componentEnd = stream.u1(k + 5) == 0 ? 256 : stream.u1(k + 5);
                plan.addChange(stream.u1(k), stream.u1(k + 1), stream.u2(k + 2),
                        stream.u1(k + 4), componentEnd, stream.u1(k + 6));
            }
        }
    }
}
