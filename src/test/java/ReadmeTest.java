import java.io.IOException;
import java.lang.reflect.Method;
import java.lang.reflect.Modifier;
import java.net.URL;
import java.net.URLClassLoader;
import java.nio.file.Files;
import java.nio.file.Path;
import java.util.ArrayList;
import java.util.List;
import java.util.Map;
import java.util.TreeMap;
import java.util.regex.Matcher;
import java.util.regex.Pattern;
import javax.tools.JavaCompiler;
import javax.tools.ToolProvider;

/** What README.md shows of the use of the class is a program: it is compiled, and each answer is compared. */
public final class ReadmeTest {
    private static final Check CHECK = new Check("ReadmeTest");
    private static final Pattern BLOCK = Pattern.compile("^```java\n(.*?)^```$", Pattern.DOTALL | Pattern.MULTILINE);
    private static final Pattern CALL = Pattern.compile("(x\\.(\\w+)\\(.*\\));\\s+// (-?\\d+|true|false|NONE|throws \\w+)\\b.*");

    private final StringBuilder methods = new StringBuilder();
    private final StringBuilder calls = new StringBuilder();
    private final Map<String, Integer> shown = new TreeMap<>();

    /** Called by the program that is made of README.md. */
    public static void answer(String line, Object got, Object due) {
        CHECK.yes(line + " answered " + got, got.equals(due));
    }

    private void read(String readme) {
        Matcher block = BLOCK.matcher(readme);
        while (block.find()) {
            if (block.group(1).startsWith("static ")) {
                methods.append(block.group(1));
            } else {
                for (String line : block.group(1).split("\n")) {
                    readLine(line);
                }
            }
        }
    }

    private void readLine(String line) {
        Matcher call = CALL.matcher(line);
        if (!call.matches()) {
            CHECK.no("no answer that can be compared stands behind " + line, line.startsWith("x."));
            calls.append(line).append('\n');
            return;
        }
        shown.merge(call.group(2), 1, Integer::sum);
        String told = '"' + line.replace("\\", "\\\\").replace("\"", "\\\"") + '"';
        String due = call.group(3);
        if (due.startsWith("throws ")) {
            String thrown = due.substring("throws ".length());
            calls.append("try { ReadmeTest.answer(").append(told).append(", ").append(call.group(1)).append(", \"").append(thrown)
                .append("\"); } catch (").append(thrown).append(" e) { ReadmeTest.answer(").append(told).append(", 0, 0); }\n");
        } else {
            calls.append("ReadmeTest.answer(").append(told).append(", ").append(call.group(1)).append(", ")
                .append(due.equals("NONE") ? "DumbwaiterYoung.NONE" : due).append(");\n");
        }
    }

    private void run() throws IOException, ReflectiveOperationException {
        Path dir = Files.createTempDirectory("readme");
        Path source = dir.resolve("Readme.java");
        Files.writeString(source, "import java.nio.ByteBuffer;\nimport java.nio.charset.StandardCharsets;\nimport java.util.Arrays;\n"
            + "import java.util.NoSuchElementException;\npublic final class Readme {\n" + methods + "public static void run() {\n" + calls + "}\n}\n");
        JavaCompiler compiler = ToolProvider.getSystemJavaCompiler();
        String classes = System.getProperty("java.class.path");
        CHECK.due("it can be compiled", compiler.run(null, null, null, "-d", dir.toString(), "-cp", classes, source.toString()), 0);
        if (Files.exists(dir.resolve("Readme.class"))) {
            try (URLClassLoader loader = new URLClassLoader(new URL[] {dir.toUri().toURL()}, ReadmeTest.class.getClassLoader())) {
                loader.loadClass("Readme").getMethod("run").invoke(null);
            }
            Files.delete(dir.resolve("Readme.class"));
        }
        Files.delete(source);
        Files.delete(dir);
    }

    private void showsTheFace() {
        List<String> missing = new ArrayList<>();
        for (Method m : DumbwaiterYoung.class.getDeclaredMethods()) {
            if (Modifier.isPublic(m.getModifiers()) && !shown.containsKey(m.getName())) {
                missing.add(m.getName());
            }
        }
        CHECK.due("methods of the face that README.md does not show " + missing, missing.size(), 0);
    }

    private static void tellsHowToTest(String readme) {
        CHECK.yes("it tells how to run the tests", readme.contains("\n    .ci/run\n"));
        CHECK.yes(".ci/run can be run", Files.isExecutable(Path.of(".ci/run")));
        Matcher named = Pattern.compile("`(\\w+\\.java)`").matcher(readme);
        while (named.find()) {
            CHECK.yes("there is a " + named.group(1), Files.exists(Path.of("src/test/java", named.group(1))));
        }
    }

    public static void main(String[] args) throws IOException, ReflectiveOperationException {
        String readme = Files.readString(Path.of("README.md"));
        ReadmeTest test = new ReadmeTest();
        test.read(readme);
        test.run();
        test.showsTheFace();
        tellsHowToTest(readme);
        CHECK.finish();
    }
}
