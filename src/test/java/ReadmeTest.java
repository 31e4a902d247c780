import java.io.IOException;
import java.net.URL;
import java.net.URLClassLoader;
import java.nio.file.Files;
import java.nio.file.Path;
import java.util.ArrayList;
import java.util.List;
import java.util.regex.Matcher;
import java.util.regex.Pattern;
import java.util.stream.Collectors;
import java.util.stream.Stream;
import javax.tools.ToolProvider;

/** README.md: its example answers what it says, and it names each test, and nothing that is not there. */
public final class ReadmeTest {
    private static final Path README = Path.of("README.md");
    private static final Path TESTS = Path.of("src/test/java");

    public static void main(String[] args) throws Exception {
        String readme = Files.readString(README);
        example(readme);
        names(readme);
        Check.end("ReadmeTest");
    }

    /** Lines of the example that say '; // n: ..' are to answer n. */
    private static void example(String readme) throws Exception {
        Matcher block = Pattern.compile("(?s)```java\n(.*?)```").matcher(readme);
        Check.due("README has an example", block.find() ? 1 : 0, 1);
        Matcher lines = Pattern.compile("(?m)^(x\\.\\w+\\(.*\\)); +// (-?\\d+): .*$").matcher(block.group(1));
        List<String> calls = new ArrayList<>();
        List<Long> due = new ArrayList<>();
        while (lines.find()) {
            calls.add(lines.group(1));
            due.add(Long.valueOf(lines.group(2)));
        }
        Check.due("its lines that tell an answer", calls.size(), 6);
        List<?> got = answers(lines.replaceAll("got.add((long) $1);"));
        for (int i = 0; i < calls.size(); i++) {
            Check.due("README: " + calls.get(i), String.valueOf(got.get(i)), due.get(i).toString());
        }
    }

    private static List<?> answers(String code) throws Exception {
        Path dir = Files.createTempDirectory("readme");
        Path file = dir.resolve("Example.java");
        try {
            Files.writeString(file, "import java.util.*;\npublic class Example {\npublic static List<Long> got() {\n"
                + "List<Long> got = new ArrayList<>();\n" + code + "return got;\n}\n}\n");
            String path = System.getProperty("java.class.path");
            int failed = ToolProvider.getSystemJavaCompiler().run(null, null, null, "-cp", path, "-d", dir.toString(),
                file.toString());
            Check.due("the example compiles", failed, 0);
            try (URLClassLoader loader = new URLClassLoader(new URL[] {dir.toUri().toURL()})) {
                return (List<?>) loader.loadClass("Example").getMethod("got").invoke(null);
            }
        } finally {
            Files.deleteIfExists(dir.resolve("Example.class"));
            Files.deleteIfExists(file);
            Files.deleteIfExists(dir);
        }
    }

    private static void names(String readme) throws IOException {
        List<String> files;
        try (Stream<Path> all = Files.list(TESTS)) {
            files = all.map(path -> path.getFileName().toString()).sorted().collect(Collectors.toList());
        }
        for (String file : files) {
            if (file.endsWith("Test.java")) {
                Check.due("README names " + file, readme.contains(file) ? 1 : 0, 1);
            }
        }
        Matcher named = Pattern.compile("(?<!\\*)\\b\\w+\\.java").matcher(readme);
        while (named.find()) {
            String name = named.group();
            Check.due("README names what is there: " + name,
                name.equals("FlotsamQuorum.java") || files.contains(name) ? 1 : 0, 1);
        }
    }
}
