import java.io.ByteArrayOutputStream;
import java.io.PrintStream;
import java.net.URL;
import java.net.URLClassLoader;
import java.nio.file.Files;
import java.nio.file.Path;
import java.util.ArrayList;
import java.util.List;
import javax.tools.ToolProvider;

/** The README's example compiles as it stands there, and prints what it says. */
public final class ReadmeTest {
    private static final Checks CHECKS = new Checks("ReadmeTest");

    public static void main(String[] args) throws Exception {
        Path root = Path.of(System.getProperty("root", "."));
        List<String> example = example(Files.readAllLines(root.resolve("README.md")));
        List<String> due = due(example);
        CHECKS.same("the example prints something", true, due.size() > 20);
        List<String> got = printed(Files.createDirectories(root.resolve("build").resolve("readme")), example);
        for (int i = 0; i < Math.max(due.size(), got.size()); i++) {
            CHECKS.same("printed line " + i, i < due.size() ? due.get(i) : "none",
                    i < got.size() ? got.get(i) : "none");
        }
        CHECKS.end();
    }

    private static List<String> example(List<String> readme) {
        int start = readme.indexOf("```java") + 1;
        List<String> rest = readme.subList(start, readme.size());
        return rest.subList(0, rest.indexOf("```"));
    }

    private static List<String> due(List<String> example) {
        List<String> due = new ArrayList<>();
        for (String line : example) {
            if (line.contains("println")) {
                due.add(line.substring(line.indexOf("// ") + 3));
            }
        }
        return due;
    }

    private static List<String> printed(Path folder, List<String> example) throws Exception {
        Path source = folder.resolve("Example.java");
        Files.writeString(source, "public final class Example {\npublic static void main(String[] args) {\n"
                + String.join("\n", example) + "\n}\n}\n");
        int compiled = ToolProvider.getSystemJavaCompiler().run(null, null, null,
                "-cp", System.getProperty("java.class.path"), "-d", folder.toString(), source.toString());
        CHECKS.same("the compiler's exit code", 0, compiled);
        PrintStream before = System.out;
        ByteArrayOutputStream bytes = new ByteArrayOutputStream();
        System.setOut(new PrintStream(bytes, true));
        try (URLClassLoader loader = new URLClassLoader(new URL[] {folder.toUri().toURL()})) {
            loader.loadClass("Example").getMethod("main", String[].class).invoke(null, (Object) new String[0]);
        } finally {
            System.setOut(before);
        }
        return bytes.toString().lines().toList();
    }
}
