import java.io.IOException;
import java.lang.reflect.Method;
import java.lang.reflect.Modifier;
import java.nio.file.DirectoryStream;
import java.nio.file.Files;
import java.nio.file.Path;

/** What README.md says is so. It is looked for where .ci/run runs: in the project's directory. */
public final class ReadmeTest extends Check {
    public static void main(String[] args) throws IOException {
        String readme = Files.readString(Path.of("README.md"));
        example();
        exampleIsTheReadmes(readme);
        callsAreThere(readme);
        testsAreThere(readme);
        end("ReadmeTest");
    }

    private static void example() {
        sentence("README.md: the example");
        // EXAMPLE
        FieldLine line = new FieldLine();
        int d = line.device(17, 4);              // address 17, a lag of 4 ticks
        line.bank(d, 2, 100, 10);                // registers 100 to 109
        line.put(d, 2, 107, 555);
        line.feed(0x03006B00, 0x01000000, 0, 0, 0);
        line.end(5);                             // read one register from 107 on
        int number = line.request(17);
        line.tick(200);                          // the frames go, byte by byte
        int value = FieldLine.NONE;
        if (line.result(0) == number && line.result(1) == 0) {
            value = line.data(2) * 256 + line.data(3);   // 555
        }
        line.take();                             // the next result is the first one then
        // END
        due("value", value, 555);
        due("results behind take", line.state(7), 0);
    }

    private static void exampleIsTheReadmes(String readme) throws IOException {
        sentence("README.md: the example (as it stands there)");
        String test = Files.readString(Path.of("src/test/java/ReadmeTest.java"));
        String here = between(test, "// EXAMPLE\n", "        // END\n").replaceAll("(?m)^        ", "");
        due("the same lines", between(readme, "```java\n", "```\n").equals(here), true);
    }

    private static String between(String text, String start, String end) {
        int from = text.indexOf(start);
        int to = from < 0 ? -1 : text.indexOf(end, from);
        return to < 0 ? "" : text.substring(from + start.length(), to);
    }

    private static void callsAreThere(String readme) {
        sentence("README.md: how to use the class (its calls)");
        for (Method m : FieldLine.class.getDeclaredMethods()) {
            if (Modifier.isPublic(m.getModifiers())) {
                due(m.getName() + " is told of", readme.contains("`" + m.getName() + "`"), true);
            }
        }
    }

    private static void testsAreThere(String readme) throws IOException {
        sentence("README.md: how to run the tests (all of them)");
        try (DirectoryStream<Path> files = Files.newDirectoryStream(Path.of("src/test/java"), "*Test.java")) {
            for (Path file : files) {
                String name = file.getFileName().toString().replace(".java", "");
                due(name + " is told of", readme.contains("| " + name + " |"), true);
            }
        }
    }
}
