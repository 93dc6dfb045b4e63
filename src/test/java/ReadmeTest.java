import java.io.IOException;
import java.lang.reflect.Method;
import java.lang.reflect.Modifier;
import java.net.URL;
import java.net.URLClassLoader;
import java.nio.file.Files;
import java.nio.file.Path;
import java.util.ArrayList;
import java.util.List;
import java.util.Set;
import java.util.TreeSet;
import java.util.regex.Matcher;
import java.util.regex.Pattern;
import java.util.stream.Collectors;
import java.util.stream.Stream;
import javax.tools.ToolProvider;

/** Tries what README.md shows: its Java, as it stands there, answers what is behind each //. */
public final class ReadmeTest {
    private static final Due DUE = new Due();
    private static final Path TESTS = Path.of("src/test/java");
    private static final Pattern BLOCK = Pattern.compile("(?s)```java\n(.*?)```");
    // Maybe a new variable; a call; behind // the answer, as a text in quotes or one word.
    private static final Pattern SHOWN = Pattern.compile("(?:\\w+ (\\w+) = )?(.+); +// (?:\"(.*)\"|([\\w-]+)).*");

    public static void main(String[] args) throws Exception {
        String readme = Files.readString(Path.of("README.md"));
        String examples = BLOCK.matcher(readme).results().map(block -> block.group(1)).collect(Collectors.joining());
        answers(examples);
        everyCallIsShown(examples);
        everyTestIsNamed(readme);
        DUE.end();
    }

    private static void answers(String examples) throws Exception {
        List<String> lines = new ArrayList<>();
        List<String> want = new ArrayList<>();
        StringBuilder code = new StringBuilder();
        for (String line : examples.split("\n")) {
            Matcher shown = SHOWN.matcher(line);
            if (shown.matches()) {
                boolean named = shown.group(1) != null;
                code.append(named ? line + "\n" : "").append("got.add(String.valueOf(")
                    .append(named ? shown.group(1) : shown.group(2)).append("));\n");
                lines.add(line);
                want.add(shown.group(3) != null ? shown.group(3) : shown.group(4));
            } else {
                DUE.is(line + " has an answer that the test can read", line.contains("//"), false);
                code.append(line).append('\n');
            }
        }
        DUE.is("there are examples", lines.size() > 0, true);
        List<String> got = run(code.toString());
        DUE.is("answers", got.size(), want.size());
        for (int i = 0; i < Math.min(got.size(), want.size()); i++) {
            DUE.is(lines.get(i), got.get(i), want.get(i));
        }
    }

    private static List<String> run(String code) throws Exception {
        Path folder = Files.createTempDirectory("readme");
        Path source = folder.resolve("Shown.java");
        Path compiled = folder.resolve("Shown.class");
        List<String> got = new ArrayList<>();
        try {
            Files.writeString(source, "public final class Shown {\n"
                + "public static void run(java.util.List<String> got) {\n" + code + "}\n}\n");
            String classes = System.getProperty("java.class.path");
            int ended = ToolProvider.getSystemJavaCompiler().run(null, null, null,
                "-cp", classes, "-d", folder.toString(), source.toString());
            DUE.is("the examples compile", ended, 0);
            if (ended == 0) {
                try (URLClassLoader loader = new URLClassLoader(new URL[] {folder.toUri().toURL()})) {
                    loader.loadClass("Shown").getMethod("run", List.class).invoke(null, got);
                }
            }
        } finally {
            Files.deleteIfExists(compiled);
            Files.deleteIfExists(source);
            Files.deleteIfExists(folder);
        }
        return got;
    }

    private static void everyCallIsShown(String examples) {
        for (Method method : BatchLinks.class.getDeclaredMethods()) {
            if (Modifier.isPublic(method.getModifiers())) {
                boolean shown = examples.contains("links." + method.getName() + "(");
                DUE.is(method.getName() + "() is shown", shown, true);
            }
        }
    }

    private static void everyTestIsNamed(String readme) throws IOException {
        Set<String> named = new TreeSet<>();
        Matcher row = Pattern.compile("(?m)^\\| `(\\w+)` \\|").matcher(readme);
        while (row.find()) {
            named.add(row.group(1) + ".java");
        }
        try (Stream<Path> files = Files.list(TESTS)) {
            Set<String> there = files.map(file -> file.getFileName().toString())
                .filter(file -> file.endsWith("Test.java")).collect(Collectors.toCollection(TreeSet::new));
            DUE.is("tests in the table", named.toString(), there.toString());
        }
    }
}
