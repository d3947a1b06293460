import java.io.IOException;
import java.io.StringWriter;
import java.lang.reflect.Method;
import java.net.URL;
import java.net.URLClassLoader;
import java.nio.file.DirectoryStream;
import java.nio.file.Files;
import java.nio.file.Path;
import java.util.ArrayList;
import java.util.Comparator;
import java.util.List;
import java.util.regex.Matcher;
import java.util.regex.Pattern;
import java.util.stream.Stream;
import javax.tools.JavaCompiler;
import javax.tools.ToolProvider;

/** What README.md says: its examples answer as it has them, and it names every call and every test. */
public final class ReadmeTest {
    private static final Pattern EXAMPLE = Pattern.compile("(?ms)^```java\\n(.*?)^```$");
    private static final Pattern ANSWERED = Pattern.compile("(\\w+\\.\\w+\\(.*\\));\\s+// (-?\\d+)");
    private static final List<String> WRONG = new ArrayList<>();
    private static int answers = 0;

    public static void main(String[] args) throws Exception {
        String readme = Files.readString(Path.of("README.md"));
        runExamples(readme);
        nameCalls(readme);
        nameTests(readme);
        for (String each : WRONG) {
            System.out.println(each);
        }
        System.out.println(answers + " answers of README.md, " + WRONG.size() + " complaints");
        if (!WRONG.isEmpty()) {
            System.exit(1);
        }
    }

    /** The examples call this, once they are compiled. */
    public static void due(String call, long got, long want) {
        answers++;
        if (got != want) {
            WRONG.add("README.md: " + call + " answered " + got + ", it says " + want);
        }
    }

    private static void runExamples(String readme) throws Exception {
        Path folder = Files.createTempDirectory("readme");
        try {
            Files.writeString(folder.resolve("ReadmeExamples.java"), sourceOf(readme));
            compile(folder);
            try (URLClassLoader loader = new URLClassLoader(new URL[] {folder.toUri().toURL()})) {
                loader.loadClass("ReadmeExamples").getMethod("run").invoke(null);
            }
        } finally {
            delete(folder);
        }
        if (answers == 0) {
            WRONG.add("README.md shows no answer");
        }
    }

    private static String sourceOf(String readme) {
        StringBuilder source = new StringBuilder("public class ReadmeExamples { public static void run() {\n");
        Matcher examples = EXAMPLE.matcher(readme);
        while (examples.find()) {
            source.append("{\n");
            for (String line : examples.group(1).split("\n")) {
                source.append(asked(line)).append('\n');
            }
            source.append("}\n");
        }
        return source.append("} }\n").toString();
    }

    private static String asked(String line) {
        Matcher answered = ANSWERED.matcher(line);
        if (!answered.matches()) {
            return line;
        }
        String call = answered.group(1);
        return "ReadmeTest.due(\"" + call + "\", " + call + ", " + answered.group(2) + ");";
    }

    private static void compile(Path folder) throws IOException {
        JavaCompiler compiler = ToolProvider.getSystemJavaCompiler();
        StringWriter said = new StringWriter();
        List<String> options = List.of("-d", folder.toString(), "-cp", System.getProperty("java.class.path"));
        try (var files = compiler.getStandardFileManager(null, null, null)) {
            var sources = files.getJavaFileObjects(folder.resolve("ReadmeExamples.java"));
            if (!compiler.getTask(said, files, null, options, null, sources).call()) {
                throw new IllegalStateException("the examples of README.md do not compile: " + said);
            }
        }
    }

    private static void delete(Path folder) throws IOException {
        try (Stream<Path> all = Files.walk(folder)) {
            for (Path each : all.sorted(Comparator.reverseOrder()).toList()) {
                Files.delete(each);
            }
        }
    }

    private static void nameCalls(String readme) {
        for (Method call : HiddenRows.class.getMethods()) {
            boolean own = call.getDeclaringClass() == HiddenRows.class;
            if (own && !Pattern.compile("(?m)^\\|.*`" + call.getName() + "\\(").matcher(readme).find()) {
                WRONG.add("README.md has no " + call.getName() + " among the calls");
            }
        }
    }

    private static void nameTests(String readme) throws IOException {
        try (DirectoryStream<Path> files = Files.newDirectoryStream(Path.of("src/test/java"), "*.java")) {
            for (Path file : files) {
                String name = file.getFileName().toString().replace(".java", "");
                if (!readme.contains("`" + name + "`")) {
                    WRONG.add("README.md does not name " + name);
                }
            }
        }
    }
}
