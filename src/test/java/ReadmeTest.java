import java.io.IOException;
import java.lang.reflect.Method;
import java.lang.reflect.Modifier;
import java.net.URL;
import java.net.URLClassLoader;
import java.nio.file.Files;
import java.nio.file.Path;
import java.util.ArrayList;
import java.util.List;
import java.util.regex.Matcher;
import java.util.regex.Pattern;
import java.util.stream.Stream;
import javax.tools.ToolProvider;

/** Whether README.md is true: its examples answer what stands behind them, no call and no test is left out. */
public final class ReadmeTest {
    private static final Pattern BLOCK = Pattern.compile("```java\n(.*?)```", Pattern.DOTALL);
    private static final Pattern ANSWERED = Pattern.compile("^(x\\..*); +// (-?\\d+)(:.*)?$");

    private final StringBuilder members = new StringBuilder();
    private final StringBuilder calls = new StringBuilder();
    private final List<String> asked = new ArrayList<>();
    private final List<Long> due = new ArrayList<>();

    public static void main(String[] args) throws Exception {
        String readme = Files.readString(Path.of("README.md"));
        lookForCalls(readme);
        lookForTests(readme);
        new ReadmeTest().lookAtExamples(readme);
        Check.end("ReadmeTest");
    }

    private static void lookForCalls(String readme) {
        String table = readme.substring(readme.indexOf("### All calls"), readme.indexOf("## How to run"));
        for (Method method : ListenWells.class.getDeclaredMethods()) {
            if (Modifier.isPublic(method.getModifiers())) {
                String name = method.getName();
                Check.due(name + " stands among all calls", count(table, "`" + name + "`"), 1);
            }
        }
    }

    private static int count(String text, String part) {
        int found = 0;
        for (int at = text.indexOf(part); at >= 0; at = text.indexOf(part, at + 1)) {
            found++;
        }
        return found;
    }

    private static void lookForTests(String readme) throws IOException {
        try (Stream<Path> files = Files.list(Path.of("src/test/java"))) {
            for (Path file : files.filter(f -> f.getFileName().toString().endsWith("Test.java")).toList()) {
                String name = file.getFileName().toString().replace(".java", "");
                Check.due(name + " is told of", Pattern.compile("\\b" + name + "\\b").matcher(readme).find() ? 1 : 0, 1);
            }
        }
    }

    private void lookAtExamples(String readme) throws Exception {
        Matcher block = BLOCK.matcher(readme);
        while (block.find()) {
            if (block.group(1).startsWith("static ")) {
                members.append(block.group(1));
            } else {
                block.group(1).lines().forEach(this::addLine);
            }
        }
        List<?> told = answers();
        Check.due("examples", told.size(), due.size());
        for (int k = 0; k < told.size() && k < due.size(); k++) {
            Check.due(asked.get(k), (Long) told.get(k), due.get(k));
        }
    }

    private void addLine(String line) {
        Matcher answered = ANSWERED.matcher(line);
        if (answered.matches()) {
            asked.add(answered.group(1));
            due.add(Long.valueOf(answered.group(2)));
            calls.append("told.add((long) ").append(answered.group(1)).append(");\n");
            return;
        }
        boolean tellsNothing = line.startsWith("ListenWells x") || line.startsWith("tape(");
        Check.due("an example that tells its answer: " + line, tellsNothing ? 1 : 0, 1);
        boolean again = line.startsWith("ListenWells x") && calls.indexOf("ListenWells x") >= 0;
        calls.append(again ? line.replace("ListenWells x", "x") : line).append('\n');
    }

    /** What the examples answer when they are compiled and run as they stand. */
    private List<?> answers() throws Exception {
        Path out = Files.createTempDirectory("readme");
        Path file = out.resolve("ReadmeExamples.java");
        Files.writeString(file, "import java.util.*;\npublic class ReadmeExamples {\n" + members
                + "public static List<Long> run() {\nList<Long> told = new ArrayList<>();\n" + calls + "return told;\n}\n}\n");
        int exit = ToolProvider.getSystemJavaCompiler().run(null, null, null,
                "-cp", System.getProperty("java.class.path"), "-d", out.toString(), file.toString());
        Check.due("the examples compile", exit, 0);
        List<?> told = exit == 0 ? run(out) : List.of();
        for (String name : List.of("ReadmeExamples.java", "ReadmeExamples.class")) {
            Files.deleteIfExists(out.resolve(name));
        }
        Files.delete(out);
        return told;
    }

    private static List<?> run(Path out) throws Exception {
        try (URLClassLoader loader = new URLClassLoader(new URL[] {out.toUri().toURL()})) {
            return (List<?>) loader.loadClass("ReadmeExamples").getMethod("run").invoke(null);
        }
    }
}
