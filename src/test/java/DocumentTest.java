import java.io.IOException;
import java.nio.file.Files;
import java.nio.file.Path;
import java.util.ArrayList;
import java.util.Arrays;
import java.util.List;
import java.util.regex.Matcher;
import java.util.regex.Pattern;
import java.util.stream.Stream;

/** Whether each sentence of the document's terms and promises is quoted by a test that is named ..EdgesTest. */
public final class DocumentTest {
    private static final Pattern QUOTE = Pattern.compile("Check\\.sentence\\(((?:\"(?:[^\"\\\\]|\\\\.)*\"\\s*\\+?\\s*)+)\\)");
    /** A line begins so: that tells nothing by itself. */
    private static final Pattern HEAD = Pattern.compile("^(`[^`]*`:|I+\\.|IV\\.|The constants:) ?");
    private static final List<String> TITLES = List.of("Of both languages:", "Words:", "ORDERS:");
    private static final Pattern TEXT = Pattern.compile("\"((?:[^\"\\\\]|\\\\.)*)\"");

    public static void main(String[] args) throws IOException {
        String document = Files.readString(Path.of(System.getProperty("listenwells.document", "../shared/DOC.md")));
        boolean[] quoted = new boolean[document.length()];
        for (String quote : quotes(Path.of(System.getProperty("listenwells.tests", "src/test/java")))) {
            for (int at = document.indexOf(quote); at >= 0; at = document.indexOf(quote, at + 1)) {
                Arrays.fill(quoted, at, at + quote.length(), true);
            }
        }
        int from = 0;
        boolean bound = false;
        for (String line : document.split("\n")) {
            bound = line.startsWith("## ") ? line.startsWith("## Terms") || line.startsWith("## Promise ") : bound;
            if (bound && !line.startsWith("## ") && !line.startsWith("```")) {
                lookAt(line, from, quoted);
            }
            from += line.length() + 1;
        }
        Check.end("DocumentTest");
    }

    private static List<String> quotes(Path tests) throws IOException {
        List<String> quotes = new ArrayList<>();
        try (Stream<Path> files = Files.list(tests)) {
            for (Path file : files.filter(f -> f.getFileName().toString().endsWith("EdgesTest.java")).toList()) {
                Matcher call = QUOTE.matcher(Files.readString(file));
                while (call.find()) {
                    StringBuilder quote = new StringBuilder();
                    Matcher text = TEXT.matcher(call.group(1));
                    while (text.find()) {
                        quote.append(text.group(1).replace("\\\"", "\""));
                    }
                    quotes.add(quote.toString());
                }
            }
        }
        return quotes;
    }

    private static void lookAt(String line, int from, boolean[] quoted) {
        Matcher head = HEAD.matcher(line);
        int at = head.find() ? head.end() : 0;
        StringBuilder missed = new StringBuilder();
        for (; at <= line.length(); at++) {
            if (at < line.length() && !quoted[from + at]) {
                missed.append(line.charAt(at));
            } else {
                String rest = missed.toString().trim();
                boolean says = rest.matches(".*[a-zA-Z0-9].*") && !TITLES.contains(rest);
                Check.due("not quoted: '" + rest + "'", says ? 1 : 0, 0);
                missed.setLength(0);
            }
        }
    }
}
