import java.io.IOException;
import java.nio.charset.StandardCharsets;
import java.nio.file.Files;
import java.nio.file.Path;
import java.util.HashMap;
import java.util.Map;
import java.util.Set;
import java.util.TreeMap;
import java.util.TreeSet;
import java.util.regex.Matcher;
import java.util.regex.Pattern;

/** LANGUAGE.md, rule 11: calls go at most eight deep; no method of the class comes back to itself. */
public final class DepthTest {
    private static final Due DUE = new Due("DepthTest");
    private static final int DEEPEST = 8;
    private static final Set<String> LIBRARY = Set.of("Math", "Integer", "System");
    private static final Pattern CLASS = Pattern.compile("^ {0,4}[a-z ]*class (\\w+) \\{$");
    private static final Pattern HEAD = Pattern.compile("^( {4}| {8})(?:[\\w\\[\\]]+ )*(\\w+)\\([^()]*\\) \\{$");
    private static final Pattern CALL = Pattern.compile("(?:(\\w+)\\.)?(?<!new )\\b(\\w+)\\(");
    private static final Pattern MADE = Pattern.compile("\\bnew (\\w+)\\(");

    private static final Map<String, Set<String>> CALLED = new TreeMap<>();
    private static final Map<String, String> CLASS_OF = new HashMap<>();

    public static void main(String[] args) throws IOException {
        String all = Files.readString(Path.of("src/main/java/TopTurned.java"), StandardCharsets.ISO_8859_1);
        String[] lines = all.replaceAll("(?s)/\\*.*?\\*/", "").replaceAll("//[^\\n]*", "").split("\n");
        listMethods(lines);
        listNames(lines);
        listCalls(lines);
        DUE.holds("all 27 calls and many methods were found", CALLED.size() > 100);
        for (String method : CALLED.keySet()) {
            int depth = depthOf(method, 1);
            DUE.holds(method + " goes " + depth + " deep", depth <= DEEPEST);
        }
        DUE.end();
    }

    private static void listMethods(String[] lines) {
        String owner = "";
        for (String line : lines) {
            owner = ownerIn(line, owner);
            Matcher head = HEAD.matcher(line);
            if (head.matches()) {
                CALLED.put(owner + "." + head.group(2), new TreeSet<>());
            }
        }
    }

    private static String ownerIn(String line, String owner) {
        Matcher declared = CLASS.matcher(line);
        if (declared.matches()) {
            return declared.group(1);
        }
        return line.equals("    }") && !owner.equals("TopTurned") ? "TopTurned" : owner;
    }

    /** Which class a field or parameter is of; a name stands for one class in all the file. */
    private static void listNames(String[] lines) {
        Pattern declared = Pattern.compile("\\b([A-Z]\\w+) (\\w+)(?=[;,) ])");
        for (String line : lines) {
            Matcher m = declared.matcher(line);
            while (m.find()) {
                String was = CLASS_OF.put(m.group(2), m.group(1));
                DUE.holds(m.group(2) + " is of one class", was == null || was.equals(m.group(1)));
            }
        }
    }

    private static void listCalls(String[] lines) {
        String owner = "";
        String method = "";
        String indent = "";
        for (String line : lines) {
            owner = ownerIn(line, owner);
            Matcher head = HEAD.matcher(line);
            if (head.matches()) {
                method = owner + "." + head.group(2);
                indent = head.group(1);
                continue;
            }
            if (line.equals(indent + "}")) {
                method = "";
            }
            Matcher call = CALL.matcher(line);
            while (call.find()) {
                addCall(method, owner, call.group(1), call.group(2));
            }
            Matcher made = MADE.matcher(line);
            while (!method.isEmpty() && made.find() && CALLED.containsKey(made.group(1) + "." + made.group(1))) {
                CALLED.get(method).add(made.group(1) + "." + made.group(1));
            }
        }
    }

    private static void addCall(String method, String owner, String on, String name) {
        if (on != null && LIBRARY.contains(on)) {
            return;
        }
        String called = on == null ? owner + "." + name : CLASS_OF.get(on) + "." + name;
        if (on == null && !CALLED.containsKey(called)) {
            called = "TopTurned." + name;
        }
        boolean known = !method.isEmpty() && CALLED.containsKey(called);
        DUE.holds("known: " + method + " calls " + called, known);
        if (known) {
            CALLED.get(method).add(called);
        }
    }

    private static int depthOf(String method, int above) {
        int deepest = 0;
        for (String called : CALLED.get(method)) {
            deepest = Math.max(deepest, above > 3 * DEEPEST ? 3 * DEEPEST : depthOf(called, above + 1));
        }
        return deepest + 1;
    }
}
