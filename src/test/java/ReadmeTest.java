import java.lang.reflect.Method;
import java.lang.reflect.Modifier;
import java.net.URL;
import java.net.URLClassLoader;
import java.nio.file.Files;
import java.nio.file.Path;
import java.util.ArrayList;
import java.util.HashSet;
import java.util.List;
import java.util.Set;
import java.util.regex.Matcher;
import java.util.regex.Pattern;
import javax.tools.JavaCompiler;
import javax.tools.ToolProvider;

/** README.md: its example answers as it says there, and each call of the face has its row, and its place in the example. */
public final class ReadmeTest {
    private static final Pattern ANSWERED = Pattern.compile("x\\.(\\w+)(\\(.*\\)); +// (-?\\d+|true|false)(:.*)?");
    private static final Pattern ROW = Pattern.compile("\\| `(\\w+) (\\w+)\\((.*)\\)` \\| \\S.* \\| \\S.* \\|");

    private final List<String> methods = new ArrayList<>();
    private final List<String> steps = new ArrayList<>();
    private final Set<String> called = new HashSet<>();
    private final Set<String> rows = new HashSet<>();

    public static void main(String[] args) throws Exception {
        ReadmeTest readme = new ReadmeTest();
        readme.read(Files.readAllLines(Path.of("README.md")));
        readme.lookForCalls();
        readme.runExample();
        Check.finish(ReadmeTest.class);
    }

    private void read(List<String> lines) {
        List<String> block = null;
        for (String line : lines) {
            Matcher row = ROW.matcher(line);
            if (line.equals("```java")) {
                block = new ArrayList<>();
            } else if (line.startsWith("```") && block != null) {
                (block.get(0).startsWith("static") ? methods : steps).addAll(block);
                block = null;
            } else if (block != null) {
                block.add(line);
            } else if (row.matches()) {
                Check.due("one row of " + row.group(2), rows.add(faceOf(row)), true);
            }
        }
    }

    private static String faceOf(Matcher row) {
        int parameters = row.group(3).isEmpty() ? 0 : row.group(3).split(", int ").length;
        return row.group(1) + " " + row.group(2) + " " + parameters;
    }

    private void lookForCalls() {
        for (String step : steps) {
            Matcher answered = ANSWERED.matcher(step);
            if (answered.matches()) {
                called.add(answered.group(1));
            }
        }
        int faces = 0;
        for (Method m : LoopGround.class.getDeclaredMethods()) {
            if (Modifier.isPublic(m.getModifiers())) {
                faces++;
                String face = m.getReturnType() + " " + m.getName() + " " + m.getParameterCount();
                Check.due("a row of " + face, rows.contains(face), true);
                boolean inHelper = m.getName().equals("feed") || m.getName().equals("end");
                Check.due("in the example: " + face, inHelper || called.contains(m.getName()), true);
            }
        }
        Check.due("rows", rows.size(), faces);
    }

    /** Each step that tells an answer is compared with it; the others stand as they are. */
    private void runExample() throws Exception {
        StringBuilder source = new StringBuilder("public final class Example {\n");
        methods.forEach(line -> source.append(line).append('\n'));
        source.append("public static void run(java.util.function.BiConsumer<String, Object> told) {\n");
        for (String step : steps) {
            Matcher answered = ANSWERED.matcher(step);
            if (answered.matches()) {
                String call = answered.group(1) + answered.group(2);
                source.append("told.accept(\"").append(call).append(" // ").append(answered.group(3)).append("\", x.");
                source.append(call).append(");\n");
            } else {
                source.append(step).append('\n');
            }
        }
        source.append("}}\n");
        Path folder = Files.createTempDirectory("readme");
        Path file = folder.resolve("Example.java");
        Files.writeString(file, source);
        JavaCompiler compiler = ToolProvider.getSystemJavaCompiler();
        String path = System.getProperty("java.class.path");
        int code = compiler.run(null, null, null, "-cp", path, "-d", folder.toString(), file.toString());
        Check.due("the example compiles", code, 0);
        try (URLClassLoader loader = new URLClassLoader(new URL[] {folder.toUri().toURL()})) {
            Method run = loader.loadClass("Example").getMethod("run", java.util.function.BiConsumer.class);
            java.util.function.BiConsumer<String, Object> compare = ReadmeTest::compare;
            run.invoke(null, compare);
        }
        Files.deleteIfExists(folder.resolve("Example.class"));
        Files.deleteIfExists(file);
        Files.deleteIfExists(folder);
    }

    private static void compare(String told, Object got) {
        String want = told.substring(told.indexOf("// ") + 3);
        if (!String.valueOf(got).equals(want)) {
            System.out.println(told + ": it is " + got);
        }
        Check.due("README.md: " + told, String.valueOf(got).equals(want), true);
    }
}
