import java.io.IOException;
import java.nio.charset.StandardCharsets;
import java.nio.file.Files;
import java.nio.file.Path;
import java.util.List;
import java.util.regex.Matcher;
import java.util.regex.Pattern;

/** What the text of the class shows of LANGUAGE.md (rules 2, 3, 4, 6, 11, 12). */
public final class LanguageTest {
    private static final Due DUE = new Due("LanguageTest");
    private static final String[] BARRED = {"throw", "throws", "try", "catch", "finally", "synchronized", "assert", "package",
        "volatile", "transient", "native", "strictfp", "var", "protected", "Object", "Exception", "Thread", "System\\.(?!arraycopy)",
        "double", "float", "Random", "hashCode", "toString", "getClass", "instanceof", "\\w+Exact"};

    private static final List<String> LIBRARY =
            List.of("Integer.bitCount", "Math.abs", "Math.max", "System.arraycopy");

    public static void main(String[] args) throws IOException {
        String all = Files.readString(Path.of("src/main/java/TopTurned.java"), StandardCharsets.ISO_8859_1);
        String code = withoutComments(all);
        for (String word : BARRED) {
            DUE.holds("no " + word, !Pattern.compile("(?<![A-Za-z])" + word + "(?![A-Za-z])").matcher(code).find());
        }
        DUE.holds("no lambda, no method reference", !code.contains("->") && !code.contains("::"));
        DUE.holds("no static block", !Pattern.compile("static\\s*\\{").matcher(code).find());
        DUE.holds("no rows of rows, no list", !code.contains("[][]") && !code.contains("List"));
        DUE.holds("plain signs alone", all.chars().allMatch(c -> c == '\n' || c >= ' ' && c < 127));
        imports(code);
        arraysAreMadeAtFirst(code);
        shortMethods(all);
        DUE.end();
    }

    private static String withoutComments(String all) {
        return all.replaceAll("(?s)/\\*.*?\\*/", "").replaceAll("//[^\\n]*", "");
    }

    private static void imports(String code) {
        DUE.holds("no import", !Pattern.compile("\\bimport\\b").matcher(code).find());
        Matcher used = Pattern.compile("\\b(Arrays|Integer|Math|System|Long)\\.\\w+").matcher(code);
        while (used.find()) {
            DUE.holds(used.group(), LIBRARY.contains(used.group()));
        }
    }

    /** A row made in a call would be made again by each call: all are made by field or constructor. */
    private static void arraysAreMadeAtFirst(String code) {
        Matcher m = Pattern.compile("(?m)^( *)(.*)\\bnew (\\w+)").matcher(code);
        while (m.find()) {
            boolean inField = m.group(1).length() <= 8 && m.group(2).contains("final");
            boolean inConstructor = m.start() > code.indexOf("public TopTurned()") && m.start() < code.indexOf("public int letter");
            DUE.holds("made at first: " + m.group().trim(), inField || inConstructor);
        }
    }

    private static void shortMethods(String all) {
        String[] lines = all.split("\n");
        int start = -1;
        String indent = "";
        for (int k = 0; k < lines.length; k++) {
            DUE.holds("line " + (k + 1) + " is not too long", lines[k].length() <= 120);
            Matcher head = Pattern.compile("( {4}| {8})\\S.*\\) \\{").matcher(lines[k]);
            if (head.matches()) {
                start = k;
                indent = head.group(1);
            } else if (start >= 0 && lines[k].equals(indent + "}")) {
                DUE.holds(lines[start].trim() + " has at most 60 lines", k - start < 60);
                start = -1;
            }
        }
    }
}
