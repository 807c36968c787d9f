import java.lang.reflect.Constructor;
import java.lang.reflect.Field;
import java.lang.reflect.InvocationTargetException;
import java.lang.reflect.Method;
import java.lang.reflect.Modifier;
import java.util.ArrayList;
import java.util.Arrays;
import java.util.HashSet;
import java.util.List;
import java.util.Random;
import java.util.Set;

/** The public face, and calls in any order with any numbers. */
public final class FaceTest {
    private static final String NONE = "NoSuchElementException";
    private static final String STATE = "IllegalStateException";
    private static final String ARGUMENT = "IllegalArgumentException";
    private static final String FULL = "UnsupportedOperationException";

    private static final String[][] FACE = {
        {"void plan()"},
        {"void picture(int,int,int,int)", ARGUMENT},
        {"void tiles(int,int,int,int)", STATE, ARGUMENT},
        {"int component(int,boolean,int,int)", ARGUMENT, STATE},
        {"void general(int,int,boolean,boolean,boolean)", ARGUMENT},
        {"void coding(int,int,int,int,int,boolean)", NONE, ARGUMENT},
        {"void precincts(int,int,int,int)", NONE, ARGUMENT},
        {"void steps(int,int,int,int)", NONE, ARGUMENT},
        {"void step(int,int,int)", NONE, ARGUMENT},
        {"int change(int,int,int,int,int,int)", ARGUMENT, STATE},
        {"int get(int,int,int)", NONE},
        {"void clear()"},
        {"int put(int)", ARGUMENT, FULL},
        {"int at(int)", NONE},
        {"int write()", STATE, FULL},
        {"void part(int,int,int,int)", ARGUMENT, FULL},
        {"void mark(int)", ARGUMENT, FULL},
        {"void spoil(int,int)", NONE},
        {"int scan()"},
        {"int place()"},
        {"int use(int)", STATE, NONE},
        {"int head(int,int)", STATE, NONE},
        {"int found(int,int)", STATE, NONE},
    };

    private static final int[] EDGES = {-2147483648, -65536, -1, 0, 0, 0, 1, 1, 1, 2, 2, 3, 4, 5,
        6, 7, 8, 10, 12, 14, 15, 16, 17, 32, 33, 37, 38, 64, 79, 81, 82, 96, 97, 144, 217, 255,
        256, 65535, 65536, 2147483647};

    /** How many calls are left for questions behind the calls of any kind. */
    private static final int QUESTIONS = 102;

    public static void main(String[] args) throws ReflectiveOperationException {
        members();
        classesInside();
        for (int seed = 0; seed < 300; seed++) {
            anyCalls(seed);
        }
        Check.end("FaceTest");
    }

    private static String signature(Method m) {
        StringBuilder text = new StringBuilder();
        text.append(m.getReturnType().getSimpleName()).append(' ').append(m.getName()).append('(');
        for (Class<?> type : m.getParameterTypes()) {
            text.append(text.charAt(text.length() - 1) == '(' ? "" : ",");
            text.append(type.getSimpleName());
        }
        return text.append(')').toString();
    }

    private static List<String> exceptions(Method m) {
        List<String> names = new ArrayList<>();
        for (Class<?> type : m.getExceptionTypes()) {
            names.add(type.getSimpleName());
        }
        return names;
    }

    private static void members() {
        Check.yes("final", Modifier.isFinal(StreamMarks.class.getModifiers()));
        Check.yes("public", Modifier.isPublic(StreamMarks.class.getModifiers()));
        Constructor<?>[] made = StreamMarks.class.getDeclaredConstructors();
        Check.same("constructors", made.length, 1);
        Check.yes("public", Modifier.isPublic(made[0].getModifiers()));
        Check.same("no arguments", made[0].getParameterCount(), 0);
        Set<String> open = new HashSet<>();
        Set<String> names = new HashSet<>();
        for (Method m : StreamMarks.class.getDeclaredMethods()) {
            if (!Modifier.isPrivate(m.getModifiers())) {
                open.add(signature(m) + exceptions(m));
                names.add(m.getName());
                Check.yes("public " + m, Modifier.isPublic(m.getModifiers()));
            }
        }
        Check.same("methods", open.size(), FACE.length);
        for (String[] row : FACE) {
            List<String> due = Arrays.asList(row).subList(1, row.length);
            Check.yes(row[0], open.contains(row[0] + due));
        }
        for (Method m : StreamMarks.class.getDeclaredMethods()) {
            if (Modifier.isPrivate(m.getModifiers())) {
                Check.yes("a name of its own: " + m, !names.contains(m.getName()));
            }
        }
        for (Field f : StreamMarks.class.getDeclaredFields()) {
            Check.yes("private " + f, Modifier.isPrivate(f.getModifiers()));
        }
    }

    private static boolean isNameOfFace(String name) {
        for (Method m : Face.class.getMethods()) {
            if (m.getName().equals(name)) {
                return true;
            }
        }
        return false;
    }

    private static void classesInside() {
        for (Class<?> c : StreamMarks.class.getDeclaredClasses()) {
            Check.yes("static " + c, Modifier.isStatic(c.getModifiers()));
            Check.yes("not public " + c, !Modifier.isPublic(c.getModifiers()));
            Check.yes("fields " + c, c.getDeclaredFields().length <= 21);
            for (Field f : c.getDeclaredFields()) {
                boolean ofClass = Modifier.isStatic(f.getModifiers());
                Check.yes("constant " + f, !ofClass || Modifier.isFinal(f.getModifiers()));
            }
            for (Method m : c.getDeclaredMethods()) {
                Check.yes("a name of its own: " + m, !isNameOfFace(m.getName()));
            }
        }
    }

    /**
     * Calls of any kind: what throws is what the method names, by a throw of its own, and changes
     * nothing: a twin that never has such a call answers all others alike.
     */
    private static void anyCalls(int seed) throws ReflectiveOperationException {
        Random random = new Random(seed);
        List<Method> face = faceInOrder();
        StreamMarks x = new StreamMarks();
        StreamMarks twin = new StreamMarks();
        int calls = 0;
        if (seed % 2 == 0) {
            calls = scanned(x);
            scanned(twin);
        }
        for (; calls < Counted.MOST_CALLS - QUESTIONS; calls++) {
            Method m = face.get(random.nextInt(face.size()));
            // Else most runs would have neither a plan nor a stream for long.
            boolean empties = m.getName().equals("plan") || m.getName().equals("clear");
            if (!empties || random.nextInt(8) == 0) {
                callBoth(x, twin, m, anyNumbers(m, random));
            }
        }
        askBoth(x, twin);
    }

    private static List<Method> faceInOrder() {
        List<Method> face = new ArrayList<>();
        for (Method m : StreamMarks.class.getMethods()) {
            if (m.getDeclaringClass() == StreamMarks.class) {
                face.add(m);
            }
        }
        face.sort((a, b) -> signature(a).compareTo(signature(b)));
        return face;
    }

    /** How many calls it took. */
    private static int scanned(StreamMarks x) {
        int[] bytes = new Bytes().main(2, 2).segment(96, 0, 0, 0, 0, 1, 7).barePart(1, 0, 0)
                .barePart(0, 0, 1).end().toArray();
        for (int b : bytes) {
            x.put(b);
        }
        x.scan();
        return bytes.length + 1;
    }

    private static Object[] anyNumbers(Method m, Random random) {
        Object[] numbers = new Object[m.getParameterCount()];
        for (int i = 0; i < numbers.length; i++) {
            boolean truth = m.getParameterTypes()[i] == boolean.class;
            int edge = EDGES[random.nextInt(EDGES.length)];
            numbers[i] = truth ? (Object) random.nextBoolean() : (Object) edge;
        }
        return numbers;
    }

    private static void callBoth(StreamMarks x, StreamMarks twin, Method m, Object... numbers)
            throws ReflectiveOperationException {
        String what = signature(m) + Arrays.toString(numbers);
        Object got;
        try {
            got = m.invoke(x, numbers);
        } catch (InvocationTargetException e) {
            checkThrown(what, m, e.getCause());
            return;
        }
        String due;
        try {
            due = String.valueOf(m.invoke(twin, numbers));
        } catch (InvocationTargetException e) {
            due = "threw " + e.getCause();
        }
        Check.sameText(what, String.valueOf(got), due);
    }

    private static void checkThrown(String what, Method m, Throwable thrown) {
        Check.yes(what + " threw " + thrown,
                exceptions(m).contains(thrown.getClass().getSimpleName()));
        StackTraceElement[] trace = thrown.getStackTrace();
        Check.yes(what + " by its own throw", trace.length > 0
                && trace[0].getClassName().equals("StreamMarks"));
    }

    /** At most QUESTIONS of them. */
    private static void askBoth(StreamMarks x, StreamMarks twin)
            throws ReflectiveOperationException {
        Method get = StreamMarks.class.getMethod("get", int.class, int.class, int.class);
        Method at = StreamMarks.class.getMethod("at", int.class);
        for (int what = 0; what < 46; what++) {
            callBoth(x, twin, get, what, 0, 0);
        }
        for (int k = -1; k < 20; k++) {
            callBoth(x, twin, at, k);
        }
        callBoth(x, twin, StreamMarks.class.getMethod("place"));
        callBoth(x, twin, StreamMarks.class.getMethod("found", int.class, int.class), -1, 0);
        callBoth(x, twin, StreamMarks.class.getMethod("use", int.class), 0);
        for (int what = 0; what < 32; what++) {
            callBoth(x, twin, get, what, 0, 0);
        }
    }
}
