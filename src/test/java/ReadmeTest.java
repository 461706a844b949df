import java.io.IOException;
import java.lang.reflect.Method;
import java.lang.reflect.Modifier;
import java.net.URL;
import java.net.URLClassLoader;
import java.nio.file.Files;
import java.nio.file.Path;
import java.util.ArrayList;
import java.util.List;
import java.util.Map;
import java.util.TreeMap;
import java.util.TreeSet;
import java.util.regex.Matcher;
import java.util.regex.Pattern;
import javax.tools.JavaCompiler;
import javax.tools.ToolProvider;

/** What README.md says of the calls and their answers is so when it is tried. */
public final class ReadmeTest {
    private static final String BEGIN = "GlulxHeads x = new GlulxHeads();";
    private static final String THROWN = "IndexOutOfBoundsException";
    private static final Pattern CALL =
        Pattern.compile("(?:(?:int|long) (\\w+) = )?(x\\.(\\w+)\\(.*\\)); +// ([^, ]+)(?:, .+)?");
    private static final Pattern ROW = Pattern.compile("\\| `(\\w+)\\(([^)]*)\\)` \\| .+ \\| ?(.*?) ?\\|");

    private final List<String> readme;
    private final StringBuilder program = new StringBuilder();
    private final Map<String, TreeSet<String>> shown = new TreeMap<>();
    private int examples = 0;

    private ReadmeTest(List<String> readme) {
        this.readme = readme;
    }

    public static void main(String[] args) throws Exception {
        ReadmeTest test = new ReadmeTest(Files.readAllLines(Path.of("README.md")));
        test.takeExamples();
        test.runExamples();
        test.compareTable();
        Due.end();
    }

    private void takeExamples() {
        program.append("public final class ReadmeExamples { public static void main(String[] args) {\n");
        boolean inside = false;
        for (String line : readme) {
            if (line.startsWith("```")) {
                inside = line.equals("```java");
                program.append(inside ? "{\n" : "}\n");
                examples += inside ? 1 : 0;
            } else if (inside) {
                takeLine(line);
            }
        }
        program.append("} }\n");
        Due.is("README.md has examples", examples > 0 ? 1 : 0, 1);
    }

    private void takeLine(String line) {
        Matcher call = CALL.matcher(line);
        if (call.matches()) {
            shown.computeIfAbsent(call.group(3), name -> new TreeSet<>()).add(call.group(4));
            program.append(asked(call.group(1), call.group(2), call.group(4)));
        } else {
            Due.is("README.md, \"" + line + "\" has no answer behind it", line.equals(BEGIN) ? 1 : 0, 1);
            program.append(line).append('\n');
        }
    }

    private String asked(String name, String call, String answer) {
        String told = "\"README.md, example " + examples + ", " + call.replace("\"", "") + "\"";
        if (answer.equals(THROWN)) {
            return "{ String got = \"nothing\"; try { " + call + "; } catch (RuntimeException e) { "
                + "got = e.getClass().getSimpleName(); } Due.is(" + told + " + \" throws \" + got, got.equals(\""
                + THROWN + "\") ? 1 : 0, 1); }\n";
        }
        String want = answer.equals("NOTHING") ? "GlulxHeads.NOTHING" : answer + "L";
        if (name == null) {
            return "Due.is(" + told + ", " + call + ", " + want + ");\n";
        }
        return "int " + name + " = " + call + "; Due.is(" + told + ", " + name + ", " + want + ");\n";
    }

    private void runExamples() throws Exception {
        Path room = Files.createTempDirectory("readme");
        try {
            Path source = room.resolve("ReadmeExamples.java");
            Files.writeString(source, program);
            JavaCompiler compiler = ToolProvider.getSystemJavaCompiler();
            int failed = compiler.run(null, null, null, "-proc:none", "-d", room.toString(), "-cp",
                System.getProperty("java.class.path"), source.toString());
            Due.is("the examples compile", failed, 0);
            if (failed == 0) {
                runIn(room);
            }
        } finally {
            remove(room);
        }
    }

    private static void runIn(Path room) throws Exception {
        URL[] places = {room.toUri().toURL()};
        try (URLClassLoader loader = new URLClassLoader(places, ReadmeTest.class.getClassLoader())) {
            Method main = loader.loadClass("ReadmeExamples").getMethod("main", String[].class);
            main.invoke(null, (Object) new String[0]);
        }
    }

    private static void remove(Path room) throws IOException {
        List<Path> inside = new ArrayList<>();
        try (var found = Files.list(room)) {
            found.forEach(inside::add);
        }
        for (Path path : inside) {
            Files.delete(path);
        }
        Files.delete(room);
    }

    private void compareTable() {
        Map<String, Integer> face = new TreeMap<>();
        for (Method m : GlulxHeads.class.getDeclaredMethods()) {
            if (Modifier.isPublic(m.getModifiers())) {
                face.put(m.getName(), m.getParameterCount());
            }
        }
        TreeSet<String> rows = new TreeSet<>();
        for (String line : readme) {
            Matcher row = ROW.matcher(line);
            if (row.matches()) {
                Due.is(row.group(1) + " has one row", rows.add(row.group(1)) ? 1 : 0, 1);
                Due.is(row.group(1) + ": parameters", parts(row.group(2)).size(), face.getOrDefault(row.group(1), -1));
                compareRefusals(row.group(1), parts(row.group(3)));
            }
        }
        Due.is("the calls " + rows + ", due " + face.keySet(), rows.equals(face.keySet()) ? 1 : 0, 1);
    }

    // Both ways: what the table says is tried by an example, and what an example shows is said by the table.
    private void compareRefusals(String name, TreeSet<String> said) {
        TreeSet<String> tried = shown.getOrDefault(name, new TreeSet<>());
        Due.is(name + ": an example has an answer", tried.stream().anyMatch(a -> !isRefusal(a)) ? 1 : 0, 1);
        TreeSet<String> refused = new TreeSet<>(tried);
        refused.removeIf(answer -> !isRefusal(answer));
        Due.is(name + ": refusals " + refused + " in examples, " + said + " in the table",
            refused.equals(said) ? 1 : 0, 1);
    }

    private static boolean isRefusal(String answer) {
        return answer.startsWith("-") || answer.equals("NOTHING") || answer.equals(THROWN);
    }

    private static TreeSet<String> parts(String text) {
        TreeSet<String> parts = new TreeSet<>();
        for (String part : text.split(", ")) {
            if (!part.isEmpty()) {
                parts.add(part);
            }
        }
        return parts;
    }
}
