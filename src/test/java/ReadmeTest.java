import java.io.IOException;
import java.nio.file.DirectoryStream;
import java.nio.file.Files;
import java.nio.file.Path;
import java.util.ArrayList;
import java.util.List;
import java.util.regex.Matcher;
import java.util.regex.Pattern;

/** What README.md says is so; the tests run in the project's directory. */
public final class ReadmeTest {
    private static final Path README = Path.of("README.md");
    private static final Path TESTS = Path.of("src", "test", "java");

    public static void main(String[] args) throws ReflectiveOperationException {
        Check.runAll(ReadmeTest.class);
    }

    /** The lines below are those of the file, and the answers are as it says. */
    static void theExample() {
        StreamMarks x = new StreamMarks();
        x.picture(0, 0, 8, 8);              // 8 by 8, in one tile
        x.component(8, false, 1, 1);        // component 0: 8 bits, without sign
        x.coding(0, 1, 6, 6, 0, true);      // one level, blocks of 64 by 64, exact
        int put = x.write();                // START and the main segments: 68 bytes
        x.part(0, 0, 1, 2);                 // part 0 of tile 0, its only one, with two bytes
        x.put(17);
        x.put(18);
        x.mark(217);                        // END
        Check.same("bytes put", put, 68);
        int refused = x.scan();             // 0: it is not refused
        int parts = x.found(-1, 0);         // there is 1 part
        int first = x.at(x.found(0, 3));    // its first byte is 17
        int bytes = x.found(0, 4);          // it has 2 bytes
        int heads = x.use(0);               // the plan of tile 0, which has 0 bytes of heads
        int levels = x.get(24, 0, 0);       // component 0 has 1 level
        Check.same("refused", refused, 0);
        Check.same("parts", parts, 1);
        Check.same("first", first, 17);
        Check.same("bytes", bytes, 2);
        Check.same("heads", heads, 0);
        Check.same("levels", levels, 1);
        x.spoil(3, 82);                     // CODING where SIZE must be
        int number = x.scan();              // 2: a mark that may not stand there
        int place = x.place();              // its place is 2
        Check.same("number", number, 2);
        Check.same("place", place, 2);
        Check.same("the plan stays", x.get(24, 0, 0), 1);
    }

    static void theExampleIsThatOfTheFile() throws IOException {
        List<String> tried = new ArrayList<>();
        for (String line : Files.readAllLines(TESTS.resolve("ReadmeTest.java"))) {
            tried.add(line.trim());
        }
        int lines = 0;
        boolean inside = false;
        for (String line : Files.readAllLines(README)) {
            if (line.startsWith("```")) {
                inside = line.equals("```java");
            } else if (inside) {
                lines++;
                Check.yes("tried: " + line, tried.contains(line));
            }
        }
        Check.same("lines", lines, 18);
    }

    static void allTestsAreNamed() throws IOException {
        String text = Files.readString(README);
        try (DirectoryStream<Path> files = Files.newDirectoryStream(TESTS, "*.java")) {
            for (Path file : files) {
                String name = file.getFileName().toString().replace(".java", "");
                boolean byPromise = name.matches("Promise\\d\\d\\w+Test");
                Check.yes(name + " is named", byPromise || text.contains("`" + name + "`"));
            }
        }
    }

    static void allThatIsNamedIsThere() throws IOException {
        Matcher names = Pattern.compile("`(\\.\\.)?([A-Z]\\w+Test)`").matcher(
                Files.readString(README));
        while (names.find()) {
            String name = (names.group(1) == null ? "" : "Promise20") + names.group(2);
            Check.yes(name + " is there", Files.exists(TESTS.resolve(name + ".java")));
        }
    }

    static void allCallsAreNamed() throws IOException {
        String text = Files.readString(README);
        for (java.lang.reflect.Method m : Face.class.getMethods()) {
            Check.yes(m.getName() + " is named", text.contains("`" + m.getName() + "`"));
        }
    }
}
