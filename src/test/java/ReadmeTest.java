import java.io.ByteArrayOutputStream;
import java.io.IOException;
import java.io.PrintStream;
import java.nio.charset.StandardCharsets;
import java.nio.file.DirectoryStream;
import java.nio.file.Files;
import java.nio.file.Path;

/** README.md: the tour that it shows is the one that is here and prints what it says; every test stands in its table. */
public final class ReadmeTest {
    private static final Path TESTS = Path.of("src/test/java");
    private static final Check CHECK = new Check();

    public static void main(String[] args) throws IOException {
        String readme = Files.readString(Path.of("README.md"));
        CHECK.text("the tour", block(readme, "```java\n"), Files.readString(TESTS.resolve("Tour.java")));
        CHECK.text("what it prints", block(readme, "```text\n"), printed());
        try (DirectoryStream<Path> tests = Files.newDirectoryStream(TESTS, "*Test.java")) {
            for (Path test : tests) {
                String name = test.getFileName().toString().replace(".java", "");
                CHECK.due(name + " stands in the table", readme.contains("| `" + name + "` |") ? 1 : 0, 1);
            }
        }
        CHECK.due("how to run the tests", readme.contains("\n.ci/run\n") ? 1 : 0, 1);
        CHECK.end("ReadmeTest");
    }

    /** What stands between a line and the next one that ends such a block. */
    private static String block(String text, String begin) {
        int from = text.indexOf(begin) + begin.length();
        int until = text.indexOf("\n```", from) + 1;
        return from >= begin.length() && until > from ? text.substring(from, until) : "";
    }

    private static String printed() {
        PrintStream before = System.out;
        ByteArrayOutputStream bytes = new ByteArrayOutputStream();
        System.setOut(new PrintStream(bytes, true, StandardCharsets.UTF_8));
        Tour.main(new String[0]);
        System.setOut(before);
        return bytes.toString(StandardCharsets.UTF_8).replace("\r\n", "\n");
    }
}
