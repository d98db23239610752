import java.io.PrintWriter;
import java.io.StringWriter;
import java.util.ArrayList;
import java.util.List;
import java.util.Map;
import java.util.Optional;
import java.util.Set;
import java.util.TreeMap;
import java.util.TreeSet;
import java.util.regex.Matcher;
import java.util.regex.Pattern;
import java.util.spi.ToolProvider;

/** The rules of LANGUAGE.md that are seen better from what javac made: who calls whom, and what of the library. */
public final class CallsTest {
    private static final int DEEPEST = 8;
    private static final int MOST_FIELDS = 20;
    private static final Set<String> LIBRARY = Set.of("java/lang/Object.<init>", "java/lang/String.charAt",
        "java/lang/System.arraycopy", "java/util/Arrays.fill", "java/lang/Math.min", "java/lang/Math.max",
        "java/lang/Math.abs", "java/lang/Integer.bitCount", "java/lang/Long.bitCount");
    /** Those that call themselves by others; the depth of brackets, 8 at most, is carried along. */
    private static final Set<String> RECURSIVE = Set.of("ListenWells$Reader.readTest", "ListenWells$Reader.readPlain",
        "ListenWells$Reader.readSum", "ListenWells$Reader.readPart");

    private static final Pattern CLASS = Pattern.compile("^(?:public )?(?:static )?final class (\\S+) \\{");
    private static final Pattern METHOD = Pattern.compile("^  (?:[\\w$\\[\\].]+ )*([\\w$]+)\\(.*\\);$");
    private static final Pattern FIELD = Pattern.compile("^  (?! |.*\\bstatic\\b)[^(]*;$");
    private static final Pattern CALL = Pattern.compile("\\binvoke\\w+ .*// (?:Interface)?Method ([^:]+):");
    private static final Pattern UNWANTED = Pattern.compile("\\b(athrow|invokedynamic|monitorenter|checkcast|instanceof|Exception table)\\b");

    private final Map<String, Set<String>> calls = new TreeMap<>();
    private final Map<String, Integer> fields = new TreeMap<>();
    private String inClass = "";
    private String inMethod = "";

    public static void main(String[] args) {
        // .ci/run promises to need javac and java alone: where there is no javap beside them, this is not looked at
        Optional<ToolProvider> javap = ToolProvider.findFirst("javap");
        if (javap.isEmpty()) {
            System.out.println("CallsTest: no javap here");
            return;
        }
        CallsTest test = new CallsTest();
        test.readAll(javap.get());
        test.look();
        Check.end("CallsTest");
    }

    private void readAll(ToolProvider javap) {
        List<String> names = new ArrayList<>(List.of("-c", "-p", "-cp", System.getProperty("java.class.path"), "ListenWells"));
        for (Class<?> inside : ListenWells.class.getDeclaredClasses()) {
            names.add(inside.getName());
        }
        StringWriter told = new StringWriter();
        PrintWriter out = new PrintWriter(told);
        int exit = javap.run(out, out, names.toArray(new String[0]));
        out.flush();
        Check.due("javap", exit, 0);
        told.toString().lines().forEach(this::readLine);
    }

    private void readLine(String line) {
        Matcher aClass = CLASS.matcher(line);
        Matcher method = METHOD.matcher(line);
        Matcher call = CALL.matcher(line);
        if (aClass.find()) {
            inClass = aClass.group(1);
            fields.put(inClass, 0);
        } else if (method.matches()) {
            String name = method.group(1).equals(inClass) ? "<init>" : method.group(1);
            inMethod = inClass + "." + name;
            Check.due("one method of the name " + inMethod, calls.containsKey(inMethod) ? 1 : 0, 0);
            calls.put(inMethod, new TreeSet<>());
        } else if (call.find()) {
            String callee = call.group(1).replace("\"", "");
            calls.get(inMethod).add(callee.contains(".") ? callee : inClass + "." + callee);
        } else if (FIELD.matcher(line).matches()) {
            fields.merge(inClass, 1, Integer::sum);
        }
        Check.due("in " + inMethod + ": " + line.trim(), UNWANTED.matcher(line).find() ? 1 : 0, 0);
    }

    private void look() {
        Check.due("classes", fields.size(), 1 + ListenWells.class.getDeclaredClasses().length);
        fields.forEach((name, count) -> Check.due("fields of " + name + ": " + count, count <= MOST_FIELDS ? 1 : 0, 1));
        for (Map.Entry<String, Set<String>> entry : calls.entrySet()) {
            for (String callee : entry.getValue()) {
                boolean known = calls.containsKey(callee) || LIBRARY.contains(callee);
                Check.due(entry.getKey() + " calls " + callee, known ? 1 : 0, 1);
            }
        }
        for (String method : calls.keySet()) {
            String longest = longestFrom(method, "");
            Check.due("calls within one another:" + longest, longest.split(" ").length - 1 <= DEEPEST ? 1 : 0, 1);
            boolean again = reaches(method, method, new TreeSet<>());
            Check.due(method + " comes to itself", again ? 1 : 0, RECURSIVE.contains(method) ? 1 : 0);
        }
    }

    /** The longest row of the class's own calls from here in which none stands twice. */
    private String longestFrom(String method, String above) {
        String row = above + " " + method;
        String longest = row;
        for (String callee : calls.getOrDefault(method, Set.of())) {
            if (calls.containsKey(callee) && !(row + " ").contains(" " + callee + " ")) {
                String longer = longestFrom(callee, row);
                longest = longer.split(" ").length > longest.split(" ").length ? longer : longest;
            }
        }
        return longest;
    }

    private boolean reaches(String from, String to, Set<String> seen) {
        for (String callee : calls.getOrDefault(from, Set.of())) {
            if (callee.equals(to) || seen.add(callee) && reaches(callee, to, seen)) {
                return true;
            }
        }
        return false;
    }
}
