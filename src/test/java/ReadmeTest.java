import java.io.IOException;
import java.lang.reflect.Method;
import java.lang.reflect.Modifier;
import java.net.URL;
import java.net.URLClassLoader;
import java.nio.file.Files;
import java.nio.file.Path;
import java.util.ArrayList;
import java.util.Comparator;
import java.util.HashSet;
import java.util.List;
import java.util.Map;
import java.util.Set;
import java.util.TreeMap;
import java.util.TreeSet;
import java.util.regex.Matcher;
import java.util.regex.Pattern;
import java.util.stream.Stream;
import javax.tools.ToolProvider;

/** What README.md shows is what the class answers, and its tables are those of the document. */
public final class ReadmeTest {
    private static final Check CHECK = new Check();
    private static final Pattern BLOCK = Pattern.compile("(?s)```java\n(.*?)```");
    private static final Pattern SHOWN = Pattern.compile("((?:x\\.\\w+|tell)\\(.*?\\)); *// (-?\\d+|[A-Z]+): \\S.*");
    private static final Pattern PROMISED = Pattern.compile("`int (\\w+)\\(([^)]*)\\)`: (.*)");
    private static final Pattern REFUSAL = Pattern.compile("\\b(BAD|NO|NONE|FULL)\\b");
    private static final String NEW_OBJECT = "HalfAsleep x = new HalfAsleep();";

    private final String readme;
    private final String document;

    private ReadmeTest() throws IOException {
        readme = Files.readString(Path.of("README.md"));
        document = Files.readString(Path.of("../shared/DOC.md"));
    }

    public static void main(String[] args) throws IOException, ReflectiveOperationException {
        ReadmeTest test = new ReadmeTest();
        test.examples();
        test.callsShown();
        test.tableOfCalls();
        test.tableOfItems();
        test.constants();
        test.testsListed();
        CHECK.end("ReadmeTest");
    }

    /** Called by the examples, each of which is made one row of calls of this method. */
    public static void due(String call, int got, int want) {
        CHECK.due(call, got, want);
    }

    private List<String> blocks() {
        List<String> found = new ArrayList<>();
        Matcher matcher = BLOCK.matcher(readme);
        while (matcher.find()) {
            found.add(matcher.group(1));
        }
        return found;
    }

    private void examples() throws IOException, ReflectiveOperationException {
        CHECK.about("the examples of README.md");
        StringBuilder source = new StringBuilder("public final class Shown {\n");
        StringBuilder all = new StringBuilder("public static void all() {\n");
        int examples = 0;
        for (String block : blocks()) {
            if (block.startsWith("static ")) {
                source.append(block);
                continue;
            }
            source.append("static void example").append(examples).append("() {\n").append(checked(block)).append("}\n");
            all.append("example").append(examples).append("();\n");
            examples++;
        }
        source.append(all).append("}\n}\n");
        CHECK.holds("there are examples", examples >= 1);
        runAll(source.toString());
    }

    /** Each line of an example makes an object or shows an answer: none is left out. */
    private static String checked(String block) {
        StringBuilder code = new StringBuilder();
        for (String line : block.split("\n")) {
            Matcher shown = SHOWN.matcher(line);
            CHECK.holds("a new object or a call with its answer: " + line, line.equals(NEW_OBJECT) || shown.matches());
            if (shown.matches()) {
                String want = shown.group(2);
                code.append("ReadmeTest.due(\"").append(shown.group(1).replace("\"", "'")).append("\", ").append(shown.group(1))
                        .append(", ").append(Character.isLetter(want.charAt(0)) ? "HalfAsleep." + want : want).append(");\n");
            } else {
                code.append(line).append("\n");
            }
        }
        return code.toString();
    }

    private static void runAll(String source) throws IOException, ReflectiveOperationException {
        Path place = Files.createTempDirectory("shown");
        try {
            Path file = place.resolve("Shown.java");
            Files.writeString(file, source);
            int compiled = ToolProvider.getSystemJavaCompiler().run(null, null, null, "--release", "17", "-d", place.toString(),
                    "-cp", System.getProperty("java.class.path"), file.toString());
            CHECK.due("javac of the examples", compiled, 0);
            if (compiled == 0) {
                try (URLClassLoader loader = new URLClassLoader(new URL[] {place.toUri().toURL()})) {
                    loader.loadClass("Shown").getMethod("all").invoke(null);
                }
            }
        } finally {
            try (Stream<Path> files = Files.walk(place)) {
                for (Path each : files.sorted(Comparator.reverseOrder()).toList()) {
                    Files.delete(each);
                }
            }
        }
    }

    private static Set<String> publicCalls() {
        Set<String> names = new TreeSet<>();
        for (Method m : HalfAsleep.class.getDeclaredMethods()) {
            if (Modifier.isPublic(m.getModifiers())) {
                names.add(m.getName());
            }
        }
        return names;
    }

    private void callsShown() {
        CHECK.about("the examples show every call and every refusal");
        String all = String.join("\n", blocks());
        for (String call : publicCalls()) {
            CHECK.holds("an example of " + call, all.contains("x." + call + "("));
        }
        for (String refusal : List.of("BAD", "NO", "NONE", "FULL")) {
            CHECK.holds("an example of " + refusal, all.contains("// " + refusal + ": "));
        }
    }

    private static Set<String> refusalsIn(String text) {
        Set<String> found = new TreeSet<>();
        Matcher matcher = REFUSAL.matcher(text);
        while (matcher.find()) {
            found.add(matcher.group(1));
        }
        return found;
    }

    private void tableOfCalls() {
        CHECK.about("the table of calls is that of the document");
        Map<String, Set<String>> promised = new TreeMap<>();
        Matcher promise = PROMISED.matcher(document);
        while (promise.find()) {
            String parameters = promise.group(2).replaceAll("(int|long) ", "");
            promised.put(promise.group(1) + "(" + parameters + ")", refusalsIn(promise.group(3)));
        }
        Map<String, Set<String>> shown = new TreeMap<>();
        Matcher row = Pattern.compile("(?m)^\\| `(\\w+\\([^)]*\\))` *\\|.*\\| *([A-Z, ]*)\\|$").matcher(readme);
        while (row.find()) {
            shown.put(row.group(1), refusalsIn(row.group(2)));
        }
        CHECK.due("promised calls", promised.size(), 26);
        CHECK.holds("promised " + promised + " and shown " + shown + " are the same", promised.equals(shown));
    }

    private void tableOfItems() {
        CHECK.about("the table of items is that of the document");
        Set<String> shown = new HashSet<>();
        Matcher row = Pattern.compile("(?m)^\\| `([a-z][A-Z](?:,[A-Z])*)` *\\|").matcher(readme);
        while (row.find()) {
            shown.add(row.group(1));
            CHECK.holds("the document has " + row.group(1), document.contains(" " + row.group(1) + " "));
        }
        CHECK.due("items", shown.size(), 7);
    }

    private void constants() {
        CHECK.about("the refusals' numbers");
        Map<String, Integer> numbers = Map.of("BAD", HalfAsleep.BAD, "NO", HalfAsleep.NO, "NONE", HalfAsleep.NONE,
                "FULL", HalfAsleep.FULL);
        for (Map.Entry<String, Integer> each : numbers.entrySet()) {
            CHECK.holds(each + " is told", readme.contains("`" + each.getKey() + "` (" + each.getValue() + ")"));
        }
    }

    private void testsListed() throws IOException {
        CHECK.about("the list of tests");
        Set<String> told = new TreeSet<>();
        Matcher named = Pattern.compile("`(\\w+Test)`").matcher(readme);
        while (named.find()) {
            told.add(named.group(1));
        }
        Set<String> there = new TreeSet<>();
        try (Stream<Path> files = Files.list(Path.of("src/test/java"))) {
            for (Path file : files.toList()) {
                String name = file.getFileName().toString();
                if (name.endsWith("Test.java")) {
                    there.add(name.replace(".java", ""));
                }
            }
        }
        CHECK.holds("told " + told + " and there " + there + " are the same", told.equals(there));
    }
}
