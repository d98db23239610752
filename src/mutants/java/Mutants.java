import java.io.File;
import java.io.IOException;
import java.nio.file.Files;
import java.nio.file.Path;
import java.util.ArrayList;
import java.util.Comparator;
import java.util.List;
import java.util.concurrent.Callable;
import java.util.concurrent.ExecutorService;
import java.util.concurrent.Executors;
import java.util.concurrent.Future;
import java.util.concurrent.TimeUnit;
import java.util.regex.Matcher;
import java.util.regex.Pattern;
import java.util.stream.Stream;
import javax.tools.JavaCompiler;
import javax.tools.ToolProvider;

/**
 * Breaks the class in one place at a time, and tells which breaks no test sees. It takes minutes, so .ci/run does not
 * run it; see README.md. What it tells is to be looked at: many a break changes no answer.
 */
public final class Mutants {
    private static final Path MAIN = Path.of("src/main/java/ListenWells.java");
    private static final Path TESTS = Path.of("src/test/java");
    private static final int SECONDS = 60;

    private static final JavaCompiler COMPILER = ToolProvider.getSystemJavaCompiler();

    private final List<String> lines;
    private final List<String> tests;
    private final Path room;
    private final List<String[]> mutants = new ArrayList<>();

    private Mutants(List<String> lines, List<String> tests, Path room) {
        this.lines = lines;
        this.tests = tests;
        this.room = room;
    }

    /** The names of the tests to run; without any, all that are named ..EdgesTest. */
    public static void main(String[] args) throws Exception {
        List<String> tests = new ArrayList<>(List.of(args));
        if (tests.isEmpty()) {
            try (Stream<Path> files = Files.list(TESTS)) {
                files.map(f -> f.getFileName().toString()).filter(n -> n.endsWith("EdgesTest.java")).sorted()
                    .forEach(n -> tests.add(n.replace(".java", "")));
            }
        }
        Path room = Files.createTempDirectory("mutants");
        Mutants all = new Mutants(Files.readAllLines(MAIN), tests, room);
        try {
            all.compileTests();
            all.findMutants();
            all.runAll();
        } finally {
            remove(room);
        }
    }

    private static void remove(Path dir) throws IOException {
        try (Stream<Path> files = Files.walk(dir)) {
            files.sorted(Comparator.reverseOrder()).forEach(f -> f.toFile().delete());
        }
    }

    private void compileTests() throws IOException {
        List<String> args = new ArrayList<>(List.of("-nowarn", "-d", room.resolve("tests").toString(), MAIN.toString()));
        try (Stream<Path> files = Files.list(TESTS)) {
            files.forEach(f -> args.add(f.toString()));
        }
        Files.createDirectories(room.resolve("tests"));
        if (COMPILER.run(null, null, null, args.toArray(new String[0])) != 0) {
            throw new IllegalStateException("the tests do not compile");
        }
        try (Stream<Path> files = Files.list(room.resolve("tests"))) {
            files.filter(f -> f.getFileName().toString().matches("ListenWells(\\$.*)?\\.class")).forEach(f -> f.toFile().delete());
        }
    }

    private void findMutants() {
        for (int i = 0; i < lines.size(); i++) {
            String line = lines.get(i);
            String bare = line.trim();
            if (bare.isEmpty() || bare.startsWith("/*") || bare.startsWith("*") || bare.startsWith("//") || bare.startsWith("import")) {
                continue;
            }
            replace(i, " (<=|<|>=|>|==|!=) ", new String[][] {{"<", "<=", ">="}, {">", ">=", "<="}, {"<=", "<", ">"},
                {">=", ">", "<"}, {"==", "!="}, {"!=", "=="}});
            replace(i, " (&&|\\|\\|) ", new String[][] {{"&&", "||"}, {"||", "&&"}});
            replace(i, " ([-+*/%]) ", new String[][] {{"+", "-"}, {"-", "+"}, {"*", "+"}, {"/", "*"}, {"%", "*"}});
            replace(i, "(\\+\\+|--)", new String[][] {{"++", "--"}, {"--", "++"}});
            replace(i, "\\b(true|false)\\b", new String[][] {{"true", "false"}, {"false", "true"}});
            replace(i, "Math\\.(max|min)\\b", new String[][] {{"max", "min"}, {"min", "max"}});
            replace(i, "(?<=[(\\s])(!)(?=[\\w(])", new String[][] {{"!", ""}});
            if (!line.contains("case ")) {
                otherNumbers(i);
            }
            boolean statement = bare.matches("[\\w.\\[\\]]+(\\(.*\\)| [-+|&^]?= .*|\\+\\+|--);") && !bare.startsWith("return");
            if (statement || bare.equals("break;") || bare.equals("continue;")) {
                add(i, ";");
            }
            if (bare.matches("if \\(.*\\) \\{")) {
                add(i, "if (!(" + bare.substring(4, bare.length() - 3) + ")) {");
            }
        }
    }

    private void add(int line, String with) {
        mutants.add(new String[] {String.valueOf(line), with});
    }

    private void replace(int line, String pattern, String[][] others) {
        String text = lines.get(line);
        Matcher m = Pattern.compile(pattern).matcher(text);
        while (m.find()) {
            for (String[] row : others) {
                for (int k = 1; k < row.length && row[0].equals(m.group(1)); k++) {
                    add(line, text.substring(0, m.start(1)) + row[k] + text.substring(m.end(1)));
                }
            }
        }
    }

    private void otherNumbers(int line) {
        String text = lines.get(line);
        Matcher m = Pattern.compile("(?<![\\w.'])(\\d+)(?=L?(?![\\w']))").matcher(text);
        while (m.find()) {
            long number = Long.parseLong(m.group(1));
            add(line, text.substring(0, m.start()) + (number + 1) + text.substring(m.end()));
            add(line, text.substring(0, m.start()) + (number - 1) + text.substring(m.end()));
        }
    }

    private void runAll() throws Exception {
        System.out.println(mutants.size() + " breaks, seen by " + tests + "?");
        ExecutorService pool = Executors.newFixedThreadPool(Runtime.getRuntime().availableProcessors());
        List<Future<Boolean>> seen = new ArrayList<>();
        for (int k = 0; k < mutants.size(); k++) {
            int number = k;
            Callable<Boolean> one = () -> isSeen(number);
            seen.add(pool.submit(one));
        }
        int unseen = 0;
        for (int k = 0; k < mutants.size(); k++) {
            if (!seen.get(k).get()) {
                unseen++;
                int line = Integer.parseInt(mutants.get(k)[0]);
                System.out.println((line + 1) + ": " + lines.get(line).trim() + "\n    -> " + mutants.get(k)[1].trim());
            }
        }
        pool.shutdown();
        System.out.println(unseen + " of " + mutants.size() + " breaks are not seen");
    }

    /** A break that does not compile, or never ends, counts as seen. */
    private boolean isSeen(int number) throws Exception {
        Path dir = Files.createDirectories(room.resolve("m" + number));
        List<String> text = new ArrayList<>(lines);
        text.set(Integer.parseInt(mutants.get(number)[0]), mutants.get(number)[1]);
        Path source = Files.write(dir.resolve("ListenWells.java"), text);
        File nowhere = dir.resolve("out").toFile();
        try (java.io.OutputStream none = java.io.OutputStream.nullOutputStream()) {
            if (COMPILER.run(null, none, none, "-nowarn", "-d", dir.toString(), source.toString()) != 0) {
                return true;
            }
        }
        for (String test : tests) {
            Process run = new ProcessBuilder("java", "-XX:TieredStopAtLevel=1", "-cp",
                dir + File.pathSeparator + room.resolve("tests"), test)
                .redirectErrorStream(true).redirectOutput(nowhere).start();
            boolean ended = run.waitFor(SECONDS, TimeUnit.SECONDS);
            if (!ended) {
                run.destroyForcibly().waitFor();
            }
            if (!ended || run.exitValue() != 0) {
                remove(dir);
                return true;
            }
        }
        remove(dir);
        return false;
    }
}
