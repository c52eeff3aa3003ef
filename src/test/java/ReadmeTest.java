import java.io.ByteArrayOutputStream;
import java.io.PrintStream;
import java.net.URL;
import java.net.URLClassLoader;
import java.nio.charset.StandardCharsets;
import java.nio.file.DirectoryStream;
import java.nio.file.Files;
import java.nio.file.Path;
import java.util.TreeSet;
import java.util.regex.Matcher;
import java.util.regex.Pattern;
import javax.tools.ToolProvider;

/** README.md stays as the program is: its example prints what stands there, and its tables leave nothing out. */
final class ReadmeTest {
    public static void main(String[] args) throws Exception {
        String readme = Files.readString(Path.of("README.md"));
        Check.due("what the example prints", printed(block(readme, "java")), block(readme, "text"));
        Check.due("the calls in the table", firstColumn(readme, "`(\\w+)\\([^`]*\\)`"), calls());
        Check.due("the tests in the table", firstColumn(readme, "`(\\w+Test)`"), tests());
        Check.end();
    }

    private static String block(String readme, String language) {
        Matcher block = Pattern.compile("(?s)```" + language + "\n(.*?)```").matcher(readme);
        return block.find() ? block.group(1) : "no block of " + language;
    }

    private static String printed(String example) throws Exception {
        Path directory = Files.createTempDirectory("readme");
        Path source = directory.resolve("Example.java");
        Files.writeString(source, "public class Example { public static void main(String[] args) {\n"
                + example + "}}\n");
        int failed = ToolProvider.getSystemJavaCompiler().run(null, null, null, "-d", directory.toString(),
                "-cp", System.getProperty("java.class.path"), source.toString());
        String text = failed == 0 ? run(directory) : "nothing, as it does not compile";
        try (DirectoryStream<Path> files = Files.newDirectoryStream(directory)) {
            for (Path file : files) {
                Files.delete(file);
            }
        }
        Files.delete(directory);
        return text;
    }

    private static String run(Path directory) throws Exception {
        PrintStream before = System.out;
        ByteArrayOutputStream text = new ByteArrayOutputStream();
        try (URLClassLoader loader = new URLClassLoader(new URL[] {directory.toUri().toURL()});
                PrintStream caught = new PrintStream(text, true, StandardCharsets.UTF_8)) {
            System.setOut(caught);
            loader.loadClass("Example").getMethod("main", String[].class).invoke(null, (Object) new String[0]);
        } finally {
            System.setOut(before);
        }
        return text.toString(StandardCharsets.UTF_8).replace(System.lineSeparator(), "\n");
    }

    private static String firstColumn(String readme, String name) {
        TreeSet<String> all = new TreeSet<>();
        Pattern.compile("(?m)^\\| " + name + " \\|").matcher(readme).results().forEach(r -> all.add(r.group(1)));
        return all.toString();
    }

    private static String calls() {
        TreeSet<String> all = new TreeSet<>();
        for (var method : QuantisedLists.class.getMethods()) {
            if (method.getDeclaringClass() == QuantisedLists.class) {
                all.add(method.getName());
            }
        }
        return all.toString();
    }

    private static String tests() throws Exception {
        TreeSet<String> all = new TreeSet<>();
        try (DirectoryStream<Path> files = Files.newDirectoryStream(Path.of("src/test/java"), "*Test.java")) {
            for (Path file : files) {
                all.add(file.getFileName().toString().replace(".java", ""));
            }
        }
        return all.toString();
    }
}
