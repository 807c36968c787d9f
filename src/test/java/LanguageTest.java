import com.sun.management.ThreadMXBean;
import java.io.IOException;
import java.lang.management.ManagementFactory;
import java.nio.file.Files;
import java.nio.file.Path;
import java.util.List;
import java.util.regex.Pattern;

/** Rules of LANGUAGE.md that can be seen in the source, and what a run makes. */
public final class LanguageTest {
    private static final Path SOURCE = Path.of("src", "main", "java", "StreamMarks.java");
    /** Rules 2, 4, 5, 6, 8: words that the class does without. */
    private static final List<String> WITHOUT = List.of("package ", "->", "::", "\\btry\\b",
            "\\bcatch\\b", "\\bfinally\\b", "\\bsynchronized\\b", "\\bassert\\b", "\\bprotected\\b",
            "Exact\\(", "System\\.", "Object\\b", "\\bhashCode\\b", "\\btoString\\b",
            "\\bequals\\(", "\\bstatic \\{", "\\bdouble\\b", "\\bfloat\\b", "\\[\\]\\[\\]",
            "while", "\\bdo\\b");
    private static final long MOST_ELEMENTS = 7_300_000;

    public static void main(String[] args) throws ReflectiveOperationException {
        Check.runAll(LanguageTest.class);
    }

    /** The lines of the source without its comments and texts. */
    private static String code() throws IOException {
        String text = Files.readString(SOURCE).replaceAll("(?s)/\\*.*?\\*/", "");
        return text.replaceAll("//[^\n]*", "").replaceAll("\"[^\"\n]*\"", "\"\"");
    }

    static void wordsThatItDoesWithout() throws IOException {
        String code = code();
        for (String word : WITHOUT) {
            Check.yes("without " + word, !Pattern.compile(word).matcher(code).find());
        }
    }

    static void itsImports() throws IOException {
        for (String line : code().split("\n")) {
            if (line.startsWith("import")) {
                Check.yes(line, line.equals("import java.util.Arrays;")
                        || line.equals("import java.util.NoSuchElementException;"));
            }
        }
        Check.yes("Arrays", !Pattern.compile("Arrays\\.(?!fill|copyOf)").matcher(code()).find());
    }

    /** Rule 6: throw new E("a written text"), never in a constructor. */
    static void itsThrows() throws IOException {
        for (String line : code().split("\n")) {
            if (line.contains("throw ")) {
                Check.yes(line, line.trim().matches("throw new (IllegalStateException"
                        + "|IllegalArgumentException|UnsupportedOperationException"
                        + "|NoSuchElementException)\\(\"\"\\);"));
            }
        }
    }

    /** Rule 11: at most seven parameters, some sixty lines, some twelve classes. */
    static void itIsShort() throws IOException {
        String code = code();
        Check.yes("classes", Pattern.compile("\\bclass \\w").matcher(code).results().count() <= 12);
        Pattern head = Pattern.compile("\n( {4}| {8})(?:\\w+ )*\\w+\\(([^(){};]*)\\)[\\w ,\n]*\\{");
        long methods = head.matcher(code).results().peek(m -> {
            Check.yes("parameters " + m.group(2), m.group(2).split(",").length <= 7);
            int end = code.indexOf("\n" + m.group(1) + "}\n", m.start());
            long lines = code.substring(m.start(), end).lines().count();
            Check.yes("lines of " + m.group(), lines <= 60);
        }).count();
        Check.yes("methods were found", methods > 100);
    }

    /** All that one object makes in 512 dear calls; no element is smaller than a byte. */
    static void whatARunMakes() {
        ThreadMXBean thread = (ThreadMXBean) ManagementFactory.getThreadMXBean();
        long before = thread.getCurrentThreadAllocatedBytes();
        StreamMarks x = new StreamMarks();
        fill(x);
        Check.same("scan", x.scan(), 0);
        Check.yes("heads", x.use(0) > 60000);
        for (int calls = 252; calls < Counted.MOST_CALLS; calls += 2) {
            x.scan();
            Check.nameOfThrown(() -> x.use(1));
        }
        long made = thread.getCurrentThreadAllocatedBytes() - before;
        Check.yes("a run made " + made + " bytes", made < MOST_ELEMENTS / 2);
    }

    /** A long stream, most of it heads of all, by fewer than 250 calls. */
    private static void fill(StreamMarks x) {
        x.picture(0, 0, 4, 4);
        for (int c = 0; c < 16; c++) {
            x.component(8, false, 1, 1);
            x.coding(c, 32, 6, 6, c, true);
            x.steps(c, 2, c & 7, 1);
        }
        int once = x.write();
        int times = (65536 - 100) / once - 1;
        int length = 2 + 1 + 4 + times * once;
        x.mark(96);
        int[] bytes = {length >> 8, length & 255, 0, 0, 0, 255, 255};
        for (int b : bytes) {
            x.put(b);
        }
        for (int n = 0; n < times; n++) {
            x.write();
        }
        x.part(0, 0, 1, 0);
        x.mark(217);
    }
}
