import java.io.IOException;
import java.lang.reflect.InvocationTargetException;
import java.net.URL;
import java.net.URLClassLoader;
import java.nio.file.Files;
import java.nio.file.Path;
import java.util.regex.Matcher;
import java.util.regex.Pattern;
import javax.tools.ToolProvider;

/** The examples of README.md are compiled and run as one program: every call answers what stands behind it. */
public final class ReadmeTest {
    private static final Path README = Path.of("README.md");
    private static final Pattern ANSWERED = Pattern.compile("(\\S.*); +// (?:\"([^\"]*)\"|([-.\\w]+)).*");
    private static final String NAME = "ReadmeExamples";

    public static void main(String[] args) throws IOException, ReflectiveOperationException {
        String program = program();
        Path folder = Files.createTempDirectory("readme");
        Path source = folder.resolve(NAME + ".java");
        Path compiled = folder.resolve(NAME + ".class");
        Files.writeString(source, program);
        try (URLClassLoader loader = new URLClassLoader(new URL[] {folder.toUri().toURL()})) {
            int failed = ToolProvider.getSystemJavaCompiler().run(null, null, null, "-d", folder.toString(),
                    "-cp", System.getProperty("java.class.path"), source.toString());
            Checks.is("the examples compile", failed, 0);
            loader.loadClass(NAME).getMethod("run").invoke(null);
        } catch (InvocationTargetException e) {
            Checks.wrong("an example threw " + e.getCause());
        } finally {
            Files.deleteIfExists(compiled);
            Files.deleteIfExists(source);
            Files.deleteIfExists(folder);
        }
        whatItSays();
        Checks.finish("ReadmeTest");
    }

    /** Blocks that begin with "static" are methods, all others follow one upon the other. */
    private static String program() throws IOException {
        StringBuilder methods = new StringBuilder();
        StringBuilder steps = new StringBuilder();
        StringBuilder block = null;
        for (String line : Files.readAllLines(README)) {
            if (line.equals("```java")) {
                block = new StringBuilder();
            } else if (line.equals("```") && block != null) {
                (block.indexOf("static") == 0 ? methods : steps).append(block);
                block = null;
            } else if (block != null) {
                block.append(step(line)).append("\n");
            }
        }
        return "public final class " + NAME + " {\n" + methods + "public static void run() {\n" + steps + "}\n}\n";
    }

    private static String step(String line) {
        Matcher matcher = ANSWERED.matcher(line);
        if (!matcher.matches()) {
            return line;
        }
        String due = matcher.group(2) == null ? matcher.group(3) : matcher.group(2);
        return "ReadmeTest.answers(\"" + matcher.group(1).replace("\"", "\\\"") + "\", \"" + due + "\", () -> "
                + matcher.group(1) + ");";
    }

    /** For the examples. */
    public interface Call {
        Object answer();
    }

    public static void answers(String what, String due, Call call) {
        String got;
        try {
            got = String.valueOf(call.answer());
        } catch (RuntimeException e) {
            got = e.getClass().getSimpleName();
        }
        Checks.is("README.md: " + what, got, due);
    }

    private static void whatItSays() throws IOException {
        String text = Files.readString(README);
        for (String part : new String[] {"new ThermoscopeGallery()", "append", "truncate", "load()", "errorCode()",
            "errorOffset()", "## Questions", "## Changes", "undo()", "save(", "restore(", "printTube(", "outputByte(",
            "512 calls", ".ci/run", "../shared/tests"}) {
            Checks.is("README.md tells of " + part, text.contains(part), true);
        }
        try (var tests = Files.newDirectoryStream(Path.of("src/test/java"), "*Test.java")) {
            for (Path test : tests) {
                String name = test.getFileName().toString().replace(".java", "");
                Checks.is("README.md lists " + name, text.contains("| " + name + " |"), true);
            }
        }
    }
}
