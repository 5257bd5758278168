import java.io.IOException;
import java.net.URL;
import java.net.URLClassLoader;
import java.nio.file.Files;
import java.nio.file.Path;
import java.util.ArrayList;
import java.util.Arrays;
import java.util.List;
import java.util.function.Supplier;
import java.util.regex.Matcher;
import java.util.regex.Pattern;
import java.util.stream.Collectors;
import java.util.stream.Stream;
import javax.tools.ToolProvider;

/** README.md: its examples are done line by line, and the classes and tests that it names are there. */
public final class ReadmeTest {
    private static final String ARROW = "// -> ";
    private static final String THROWS = "throws ";

    public static void main(String[] args) throws Exception {
        String readme = Files.readString(Path.of("README.md"));
        examples(readme);
        names(readme);
        Rig.end();
    }

    private static void examples(String readme) throws Exception {
        Rig.part("examples of README.md");
        Path folder = Files.createTempDirectory("readme");
        try {
            Path source = folder.resolve("ReadmeExamples.java");
            List<String> lines = exampleClass(readme);
            Files.write(source, lines);
            int failed = ToolProvider.getSystemJavaCompiler().run(null, null, null,
                "-cp", System.getProperty("java.class.path"), "-d", folder.toString(), source.toString());
            Rig.due("compiling", failed, 0);
            if (failed == 0) {
                compare(folder);
            }
        } finally {
            remove(folder);
        }
    }

    /** Each answer is a row: the line, what was answered, what README.md shows. */
    private static void compare(Path folder) throws Exception {
        try (URLClassLoader loader = new URLClassLoader(new URL[] {folder.toUri().toURL()})) {
            Supplier<?> made = (Supplier<?>) loader.loadClass("ReadmeExamples").getConstructor().newInstance();
            int rows = 0;
            for (Object row : (List<?>) made.get()) {
                String[] texts = (String[]) row;
                Rig.due(texts[0], texts[1], texts[2]);
                rows++;
            }
            Rig.due("there are answers", rows > 10, true);
        }
    }

    private static List<String> exampleClass(String readme) {
        List<String> out = new ArrayList<>(Arrays.asList(
            "import java.util.*;",
            "public final class ReadmeExamples implements java.util.function.Supplier<List<String[]>> {",
            "private final List<String[]> rows = new ArrayList<>();",
            "private void row(String what, long got, long due) { row(what, \"\" + got, \"\" + due); }",
            "private void row(String what, boolean got, boolean due) { row(what, \"\" + got, \"\" + due); }",
            "private void row(String what, String got, String due) { rows.add(new String[] {what, got, due}); }",
            "public List<String[]> get() {"));
        boolean inside = false;
        for (String line : readme.split("\n")) {
            if (line.startsWith("```")) {
                boolean begins = line.equals("```java");
                out.add(begins ? "{" : inside ? "}" : "");
                inside = begins;
            } else if (inside) {
                out.add(example(line));
            }
        }
        out.add("return rows; } }");
        return out;
    }

    private static String example(String line) {
        int at = line.indexOf(ARROW);
        if (at < 0) {
            return line;
        }
        String call = line.substring(0, at).strip().replace(";", "");
        String due = line.substring(at + ARROW.length()).strip();
        if (!due.startsWith(THROWS)) {
            return "row(\"" + call + "\", " + call + ", " + due + ");";
        }
        String name = due.substring(THROWS.length());
        return "{ String got = \"nothing\"; try { " + call + "; } catch (RuntimeException e) { "
            + "got = e.getClass().getSimpleName(); } row(\"" + call + "\", got, \"" + name + "\"); }";
    }

    private static void remove(Path folder) throws IOException {
        try (Stream<Path> files = Files.list(folder)) {
            for (Path file : files.collect(Collectors.toList())) {
                Files.delete(file);
            }
        }
        Files.delete(folder);
    }

    private static void names(String readme) throws IOException {
        Rig.part("names in README.md");
        for (Class<?> inside : MainframeCore.class.getDeclaredClasses()) {
            Rig.due(inside.getSimpleName(), readme.contains("`" + inside.getSimpleName() + "`"), true);
        }
        try (Stream<Path> files = Files.list(Path.of("src/test/java"))) {
            for (Path file : files.collect(Collectors.toList())) {
                String name = file.getFileName().toString().replace(".java", "");
                boolean named = readme.contains("`" + name + "`") || readme.contains("`" + name + ".java`");
                Rig.due(name, named, true);
            }
        }
        Matcher test = Pattern.compile("`(\\w+Test)`").matcher(readme);
        while (test.find()) {
            Rig.due(test.group(1), Files.exists(Path.of("src/test/java", test.group(1) + ".java")), true);
        }
        Rig.due(".ci/run can be run", Files.isExecutable(Path.of(".ci/run")), true);
    }
}
