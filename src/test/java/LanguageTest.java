import java.io.IOException;
import java.nio.file.Files;
import java.nio.file.Path;
import java.util.ArrayList;
import java.util.LinkedHashMap;
import java.util.List;
import java.util.Map;
import java.util.TreeSet;
import java.util.regex.Matcher;
import java.util.regex.Pattern;

/** Those rules of ../shared/LANGUAGE.md that the text of the class shows, by their numbers. */
public final class LanguageTest {
    private static final Path PROGRAM = Path.of("src/main/java/FloodGrid.java");
    private static final Pattern METHOD = Pattern.compile(
        "^(?<indent> +)(?:[\\w\\[\\]]+ )*(?<name>\\w+)\\((?<takes>[^)]*)\\)(?: throws [\\w, ]+)? \\{$");
    private static final Pattern CALL = Pattern.compile("(?<!new )\\b(\\w+)\\(");

    private static final int MOST_LINES = 60;
    private static final int MOST_PARAMETERS = 7;
    private static final int MOST_DEEP = 8;
    private static final int MOST_FIELDS = 20;

    /** What the rules rule out of any text, as patterns. */
    private static final String[][] RULED_OUT = {
        {"rule 1", "^package\\b|\\bprotected\\b"},
        {"rule 2", "->|::"},
        {"rule 3", "\\b(Object|Long|Double|Map|Set|Deque|BigInteger|float|var)\\b"},
        {"rule 4", "\\w+Exact\\b|\\bSystem\\.(?!arraycopy\\()|\\bArrays\\.(?!(copyOf|copyOfRange|fill)\\()"},
        {"rule 4", "\\bMath\\.(?!(max|min|abs|floorMod|floorDiv)\\()"},
        {"rule 5", "\\bstatic \\{|\\bstatic (?!final\\b)[\\w\\[\\]]+ \\w+( =|;)"},
        {"rule 6", "\\b(try|catch|finally|synchronized|assert|hashCode|equals|toString)\\b"},
        {"rule 6", "\\bthrow (?!new (IndexOutOfBounds|IllegalArgument)Exception\\(\"\"\\);)"},
        {"rule 9", "\\bwhile \\(true\\)|\\bfor \\(;;|; ;"},
        {"rule 10", "\"\" \\+|\\+ \"\""},
        {"rule 13", "\\b(Random|Thread|Runtime|Clock|Instant|File|Socket|random|nanoTime|currentTimeMillis)\\b"}
    };

    public static void main(String[] args) throws IOException {
        List<String> lines = new ArrayList<>();
        for (String line : Files.readAllLines(PROGRAM)) {
            lines.add(withoutWords(line));
        }
        ruledOut(lines);
        imports(lines);
        made(lines);
        fields();
        Map<String, List<String>> bodies = bodies(lines);
        if (!bodies.containsKey("advise")) {
            Check.fail("the methods are not found in the text");
        }
        for (String method : bodies.keySet()) {
            atMost(MOST_DEEP, depth(method, bodies, 1), "rule 11, calls within one another, from " + method);
        }
        Check.end();
    }

    /** Comments and what stands in quotes bind no rule. */
    private static String withoutWords(String line) {
        String bare = line.replaceAll("\"[^\"]*\"", "\"\"").replaceAll("//.*|/\\*.*?\\*/", "");
        return bare.stripTrailing();
    }

    private static void ruledOut(List<String> lines) {
        for (int at = 0; at < lines.size(); at++) {
            for (String[] rule : RULED_OUT) {
                if (Pattern.compile(rule[1]).matcher(lines.get(at)).find()) {
                    Check.fail(rule[0] + ", line " + (at + 1) + ": " + lines.get(at).strip());
                }
            }
        }
    }

    private static void imports(List<String> lines) {
        for (String line : lines) {
            if (line.startsWith("import ") && !line.equals("import java.util.Arrays;")) {
                Check.fail("rule 4: " + line);
            }
        }
    }

    /** Rule 12: objects and rows are made in constructors and first values alone, so no call makes one. */
    private static void made(List<String> lines) {
        for (String line : lines) {
            boolean kept = line.matches(" +(private )?final int\\[\\] \\w+ = new int\\[\\w+\\];")
                || line.matches(" {8}(now|ahead) = new Plain\\(\\);");
            if (line.contains("new ") && !line.contains("throw new ") && !kept) {
                Check.fail("rule 12: " + line.strip());
            }
        }
    }

    private static void fields() {
        for (Class<?> inside : FloodGrid.class.getDeclaredClasses()) {
            atMost(MOST_FIELDS, inside.getDeclaredFields().length, "rule 11, fields of " + inside.getName());
        }
    }

    /** The lines of each method, by its name. */
    private static Map<String, List<String>> bodies(List<String> lines) {
        Map<String, List<String>> bodies = new LinkedHashMap<>();
        for (int at = 0; at < lines.size(); at++) {
            Matcher head = METHOD.matcher(lines.get(at));
            if (head.matches()) {
                int end = at + 1 + lines.subList(at + 1, lines.size()).indexOf(head.group("indent") + "}");
                atMost(MOST_LINES, end - at + 1, "rule 11, lines of " + head.group("name"));
                atMost(MOST_PARAMETERS, head.group("takes").split(",").length,
                    "rule 11, parameters of " + head.group("name"));
                if (bodies.put(head.group("name"), lines.subList(at + 1, end)) != null) {
                    Check.fail("rule 1, two methods are named " + head.group("name"));
                }
            }
        }
        return bodies;
    }

    private static void atMost(int most, int many, String told) {
        if (many > most) {
            Check.fail(told + ": " + many + ", at most " + most);
        }
    }

    /** How many methods stand open at once, the first among them; above MOST_DEEP the search stops. */
    private static int depth(String method, Map<String, List<String>> bodies, int open) {
        int deepest = open;
        if (open > MOST_DEEP) {
            return deepest;
        }
        for (String called : new TreeSet<>(calls(bodies.get(method)))) {
            if (bodies.containsKey(called)) {
                deepest = Math.max(deepest, depth(called, bodies, open + 1));
            }
        }
        return deepest;
    }

    private static List<String> calls(List<String> body) {
        List<String> calls = new ArrayList<>();
        for (String line : body) {
            Matcher call = CALL.matcher(line);
            while (call.find()) {
                calls.add(call.group(1));
            }
        }
        return calls;
    }
}
