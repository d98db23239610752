import java.nio.file.Files;
import java.nio.file.Path;
import java.util.ArrayList;
import java.util.HashSet;
import java.util.List;
import java.util.Set;
import java.util.regex.Matcher;
import java.util.regex.Pattern;

/** The rules of LANGUAGE.md that can be seen from the source's lines. */
public final class LanguageTest {
    private static final Pattern METHOD = Pattern.compile(
        "^ +(public |private |static |final )*[A-Za-z<>\\[\\]]+ ([a-z]\\w*)\\(([^)]*)\\) \\{$");

    public static void main(String[] args) throws Exception {
        String source = Files.readString(Path.of(System.getProperty("listenwells.source", "src/main/java/ListenWells.java")));
        String bare = source.replaceAll("(?s)/\\*.*?\\*/", "").replaceAll("//[^\n]*", "").replaceAll("\"[^\"]*\"", "\"\"");
        for (String word : new String[] {"throw", "throws", "try", "catch", "finally", "synchronized", "assert", "instanceof",
            "protected", "volatile", "native", "enum", "record", "interface", "new Thread", "System.out", "System.exit",
            "Random", "Exact", "double", "float"}) {
            Check.due("'" + word + "' in the class", count(bare, "\\b" + word + "\\b"), 0);
        }
        Check.due("lambdas", count(bare, "->"), 0);
        Check.due("method references", count(bare, "::"), 0);
        Check.due("imports", count(bare, "(?m)^import "), 1);
        Check.due("import of Arrays", count(bare, "(?m)^import java\\.util\\.Arrays;"), 1);
        Check.due("package", count(bare, "(?m)^package "), 0);
        Check.due("static fields that are not final", count(bare, "static (?!final\\b)[\\w\\[\\]]+ \\w+( =|;)"), 0);
        Check.due("classes inside that are not static", count(bare, "(?m)^ ++(?!private static final )[a-z ]*\\bclass \\w+ \\{"), 0);
        Check.due("at most twelve classes", count(bare, "\\bclass \\w+ \\{") <= 12 ? 1 : 0, 1);
        Check.due("texts joined by +", count(bare, "\"\"\\s*\\+|\\+\\s*\"\""), 0);
        members(bare);
        methods(bare);
        Check.end("LanguageTest");
    }

    private static int count(String text, String pattern) {
        Matcher m = Pattern.compile(pattern).matcher(text);
        int n = 0;
        while (m.find()) {
            n++;
        }
        return n;
    }

    /** What stands at the outer class's own depth is public by the document's face, or private. */
    private static void members(String bare) {
        int publics = 0;
        for (String line : bare.split("\n")) {
            if (line.matches("    [a-zA-Z].*")) {
                boolean isPublic = line.startsWith("    public ");
                publics += isPublic ? 1 : 0;
                Check.due("member '" + line.trim() + "'", isPublic || line.startsWith("    private ") ? 1 : 0, 1);
            } else if (line.contains("public ") && !line.startsWith("public final class ListenWells")) {
                Check.due("public inside: '" + line.trim() + "'", 0, 1);
            }
        }
        Check.due("public members", publics, 2 + 1 + 44);
    }

    private static void methods(String bare) {
        String[] lines = bare.split("\n");
        Set<String> face = new HashSet<>();
        List<String> others = new ArrayList<>();
        for (int i = 0; i < lines.length; i++) {
            Matcher m = METHOD.matcher(lines[i]);
            if (!m.matches()) {
                continue;
            }
            (lines[i].startsWith("    public ") ? face : others).add(m.group(2));
            Check.due("parameters of " + m.group(2), m.group(3).split(",").length <= 7 ? 1 : 0, 1);
            String end = lines[i].replaceAll("\\S.*", "") + "}";
            int last = i;
            while (!lines[last].equals(end)) {
                last++;
            }
            Check.due("lines of " + m.group(2), last - i + 1 <= 60 ? 1 : 0, 1);
        }
        Check.due("methods of the face", face.size(), 44);
        for (String name : others) {
            Check.due("a method of the face's name inside: " + name, face.contains(name) ? 1 : 0, 0);
        }
    }
}
