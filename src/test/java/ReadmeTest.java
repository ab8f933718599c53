import java.io.IOException;
import java.lang.reflect.Method;
import java.lang.reflect.Modifier;
import java.nio.charset.StandardCharsets;
import java.nio.file.Files;
import java.nio.file.Path;
import java.util.List;
import java.util.regex.Matcher;
import java.util.regex.Pattern;
import java.util.stream.Stream;

/** README.md says how to use the class: what it says there must be so. */
public final class ReadmeTest {
    private static final Due DUE = new Due("ReadmeTest");

    public static void main(String[] args) throws IOException, ReflectiveOperationException {
        String page = Files.readString(Path.of("README.md"), StandardCharsets.UTF_8);
        exampleAnswers(page);
        lettersAreRead(page);
        callsAreNamed(page);
        testsAreNamed(page);
        DUE.end();
    }

    /** Each row "x.call(numbers); // answer" of the example, called in its order. */
    private static void exampleAnswers(String page) throws ReflectiveOperationException {
        int start = page.indexOf("```java");
        String example = page.substring(start, page.indexOf("```", start + 7));
        Matcher told = Pattern.compile("\"([^\"]*)\"\\.toCharArray").matcher(example);
        TopTurned x = new TopTurned();
        DUE.holds("the example tells a kitchen", told.find());
        Due.letters(x, told.group(1));
        Matcher row = Pattern.compile("x\\.(\\w+)\\(([-0-9, ]*)\\);\\s*// (-?\\d+)").matcher(example);
        int rows = 0;
        while (row.find()) {
            String call = row.group(1) + "(" + row.group(2) + ")";
            DUE.is(call, answer(x, row.group(1), row.group(2)), Integer.parseInt(row.group(3)));
            rows++;
        }
        DUE.is("rows with an answer", rows, (int) example.lines().filter(line -> line.contains("//")).count());
    }

    private static int answer(TopTurned x, String name, String told) throws ReflectiveOperationException {
        Object[] numbers = Stream.of(told.split(",")).map(String::trim).filter(n -> !n.isEmpty()).map(Integer::valueOf).toArray();
        Class<?>[] kinds = new Class<?>[numbers.length];
        for (int k = 0; k < kinds.length; k++) {
            kinds[k] = int.class;
        }
        return (Integer) TopTurned.class.getMethod(name, kinds).invoke(x, numbers);
    }

    /** The statements of the table, all told behind each other and each with its own first letter. */
    private static void lettersAreRead(String page) {
        int start = page.indexOf("| told in letters");
        String table = page.substring(start, page.indexOf("\n\n", start));
        Matcher statement = Pattern.compile("`(([a-z])\\S*;)`").matcher(table);
        StringBuilder all = new StringBuilder();
        StringBuilder heads = new StringBuilder();
        int many = 0;
        while (statement.find()) {
            all.append(statement.group(1));
            if (heads.indexOf(statement.group(2)) < 0) {
                heads.append(statement.group(2));
            }
            many++;
        }
        DUE.is("kitchen of the table", Due.tell(new TopTurned(), all.toString()), many);
        DUE.same("first letters", heads.toString(), "plmkbcs");
    }

    private static void callsAreNamed(String page) {
        int start = page.indexOf("| calls |");
        String table = page.substring(start, page.indexOf("\n\n", start));
        for (Method m : TopTurned.class.getDeclaredMethods()) {
            if (Modifier.isPublic(m.getModifiers())) {
                DUE.holds("named: " + m.getName(), table.contains("`" + m.getName() + "`"));
            }
        }
    }

    private static void testsAreNamed(String page) throws IOException {
        int start = page.indexOf("| test |");
        String table = page.substring(start, page.indexOf("\n\n", start));
        List<String> files;
        try (Stream<Path> all = Files.list(Path.of("src/test/java"))) {
            files = all.map(p -> p.getFileName().toString()).filter(n -> n.endsWith("Test.java")).toList();
        }
        for (String file : files) {
            String name = file.substring(0, file.length() - 5);
            DUE.holds("named: " + name, Pattern.compile("\\b" + name + "\\b").matcher(table).find());
        }
        Matcher named = Pattern.compile("\\b[A-Z]\\w*Test\\b").matcher(table);
        while (named.find()) {
            DUE.holds("there: " + named.group(), files.contains(named.group() + ".java"));
        }
    }
}
