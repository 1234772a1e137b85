import java.io.IOException;
import java.lang.reflect.Method;
import java.lang.reflect.Modifier;
import java.nio.file.Files;
import java.nio.file.Path;
import java.util.ArrayList;
import java.util.List;
import java.util.Map;
import java.util.TreeMap;
import java.util.regex.Matcher;
import java.util.regex.Pattern;

/** README.md tells what the class does: its example answers so, and its tables are the face's and the document's. */
final class ReadmeTest {
    private static final Pattern EXAMPLE =
        Pattern.compile("^ +x\\.(\\w+)\\((.*?)\\); +// (-?\\d+|[A-Z]+(?: \\+ [A-Z]+)?)", Pattern.MULTILINE);
    private static final Pattern CALL_ROW =
        Pattern.compile("^\\| `(\\w+)\\((.*?)\\)` \\|.*\\|([^|]*)\\|$", Pattern.MULTILINE);
    private static final Pattern REFUSAL_ROW = Pattern.compile("^\\| `([A-Z]+)` \\| (-\\d+) \\|", Pattern.MULTILINE);
    private static final Pattern PROMISE = Pattern.compile("^`(?:int|long) (\\w+)\\(.*?\\)`: (.*)$", Pattern.MULTILINE);
    private static final Pattern REFUSAL = Pattern.compile("\\b(UNKNOWN|OUTSIDE|NO|STATE|FULL)\\b");

    public static void main(String[] args) throws ReflectiveOperationException, IOException {
        String page = Files.readString(Path.of("README.md"));
        Map<String, Method> face = new TreeMap<>();
        for (Method m : NodTax.class.getDeclaredMethods()) {
            if (Modifier.isPublic(m.getModifiers())) {
                face.put(m.getName(), m);
            }
        }
        example(page, face);
        calls(page, face, Files.readString(Path.of("../shared/DOC.md")));
        refusals(page);
        tests(page);
        Check.end();
    }

    private static void example(String page, Map<String, Method> face) throws ReflectiveOperationException {
        NodTax x = new NodTax();
        Matcher line = EXAMPLE.matcher(page);
        int lines = 0;
        while (line.find()) {
            lines++;
            Number got = (Number) face.get(line.group(1)).invoke(x, arguments(line.group(2)));
            Check.due("README.md: " + line.group(1) + "(" + line.group(2) + ")", got.longValue(), number(line.group(3)));
        }
        int written = page.split("\n +x\\.", -1).length - 1;
        Check.holds("each of the example's " + written + " calls tells its answer", lines == written && lines > 25);
        Check.due("README.md: what the example prints", x.told(0), 4);
    }

    private static Object[] arguments(String text) {
        List<Object> all = new ArrayList<>();
        for (String one : text.isEmpty() ? new String[0] : text.split(", ")) {
            if (one.startsWith("'")) {
                all.add((int) one.charAt(1));
            } else if (one.equals("true") || one.equals("false")) {
                all.add(one.equals("true"));
            } else {
                all.add(Integer.parseInt(one));
            }
        }
        return all.toArray();
    }

    private static long number(String text) throws ReflectiveOperationException {
        if (!Character.isUpperCase(text.charAt(0))) {
            return Long.parseLong(text);
        }
        long sum = 0;
        for (String name : text.split(" \\+ ")) {
            sum += NodTax.class.getField(name).getLong(null);
        }
        return sum;
    }

    private static void calls(String page, Map<String, Method> face, String document) {
        Map<String, List<String>> promised = new TreeMap<>();
        Matcher promise = PROMISE.matcher(document);
        while (promise.find()) {
            promised.put(promise.group(1), refusalsIn(promise.group(2)));
        }
        List<String> rows = new ArrayList<>();
        Matcher row = CALL_ROW.matcher(page);
        while (row.find()) {
            String name = row.group(1);
            rows.add(name);
            int numbers = row.group(2).isEmpty() ? 0 : row.group(2).split(", ").length;
            Check.holds("README.md: " + name + " is of the face, with so many parameters",
                    face.containsKey(name) && face.get(name).getParameterCount() == numbers);
            Check.holds("README.md: " + name + " is refused as the document says: " + promised.get(name),
                    refusalsIn(row.group(3)).equals(promised.get(name)));
        }
        Check.due("README.md: a row for each call", rows.stream().distinct().count(), face.size());
        Check.due("README.md: one row for each call", rows.size(), face.size());
    }

    private static List<String> refusalsIn(String text) {
        List<String> found = new ArrayList<>();
        Matcher matcher = REFUSAL.matcher(text);
        while (matcher.find()) {
            found.add(matcher.group());
        }
        return found;
    }

    private static void refusals(String page) throws ReflectiveOperationException {
        List<String> told = new ArrayList<>();
        Matcher row = REFUSAL_ROW.matcher(page);
        while (row.find()) {
            told.add(row.group(1));
            Check.due("README.md: " + row.group(1), Long.parseLong(row.group(2)), number(row.group(1)));
        }
        Check.holds("README.md: the refusals in the order of the document",
                told.equals(List.of("UNKNOWN", "OUTSIDE", "NO", "STATE", "FULL")));
        Check.holds("README.md tells LOST and NONE",
                page.contains("`LOST` (" + NodTax.LOST + ")") && page.contains("`NONE` (" + NodTax.NONE + ")"));
    }

    private static void tests(String page) throws IOException {
        Check.holds("README.md names the command that runs all tests", page.contains("\n    .ci/run\n"));
        Check.holds("and it can be run", Files.isExecutable(Path.of(".ci/run")));
        try (var files = Files.list(Path.of("src/test/java"))) {
            for (Path file : files.toList()) {
                String name = file.getFileName().toString().replace(".java", "");
                Check.holds("README.md names " + name, !name.endsWith("Test") || page.contains("`" + name + "`"));
            }
        }
    }
}
