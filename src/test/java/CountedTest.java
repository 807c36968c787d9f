import java.io.IOException;
import java.nio.file.DirectoryStream;
import java.nio.file.Files;
import java.nio.file.Path;
import java.util.List;

/** No test uses an object for more than 512 calls. */
public final class CountedTest {
    /** Those that make objects themselves, and count the calls by their own lines. */
    private static final List<String> OWN_OBJECTS =
            List.of("Counted.java", "FaceTest.java", "ReadmeTest.java", "LanguageTest.java");

    public static void main(String[] args) throws ReflectiveOperationException {
        Check.runAll(CountedTest.class);
    }

    private static boolean isRefused(Runnable call) {
        try {
            call.run();
        } catch (AssertionError e) {
            return true;
        }
        return false;
    }

    static void fiveHundredAndTwelveCalls() {
        Counted x = new Counted();
        for (int n = 1; n <= 512; n++) {
            Check.same("calls left", x.callsLeft(), 513 - n);
            Check.same("put", x.put(7), n);
        }
        Check.yes("a 513th call", isRefused(() -> x.put(7)));
        Check.yes("a question behind 512 calls", isRefused(() -> x.at(0)));
    }

    static void moreQuestionsGoToANewObject() {
        Counted x = new Counted();
        Made.rich(x);
        for (int n = 0; n < 2000; n++) {
            Check.same("place", x.place(), 2);
            Check.same("at", x.at(2), 7);
        }
        Check.same("put", x.put(9), 4);
        Check.same("order", x.get(9, 0, 0), 3);
    }

    static void allOtherTestsAreCounted() throws IOException {
        Path tests = Path.of("src", "test", "java");
        try (DirectoryStream<Path> files = Files.newDirectoryStream(tests, "*.java")) {
            for (Path file : files) {
                boolean makes = Files.readString(file).contains("new " + "StreamMarks(");
                String name = file.getFileName().toString();
                Check.yes(name + " is counted", !makes || OWN_OBJECTS.contains(name));
            }
        }
    }
}
