import java.io.IOException;
import java.nio.file.Files;
import java.nio.file.Path;
import java.util.Arrays;
import java.util.HashMap;
import java.util.List;
import java.util.Map;
import java.util.Set;
import java.util.TreeSet;
import java.util.regex.Matcher;
import java.util.regex.Pattern;
import java.util.stream.Collectors;
import java.util.stream.Stream;

/** README.md says what is so: the answers in its example, its table of bounds, its table of tests. */
public final class ReadmeTest {
    private static final Pattern LINE = Pattern.compile("(?:int (\\w+) = )?ferry\\.(\\w+)\\((.*)\\); +// (.*)");
    private static final Pattern BOUND = Pattern.compile("\\|.*\\|.*\\| `(\\w+)` by (`.*`) \\|");

    public static void main(String[] args) throws IOException {
        List<String> lines = Files.readAllLines(Path.of("README.md"));
        example(lines.subList(lines.indexOf("```java") + 1, lines.lastIndexOf("```")));
        bounds(lines);
        tests(lines);
        Check.end("ReadmeTest");
    }

    private static void example(List<String> lines) {
        Patchferry ferry = new Patchferry();
        Map<String, String> named = new HashMap<>();
        Set<String> methods = new TreeSet<>();
        Check.same("the first line", lines.get(0), "Patchferry ferry = new Patchferry();");
        for (String line : lines.subList(1, lines.size())) {
            Matcher call = LINE.matcher(line);
            if (!call.matches()) {
                Check.same("a line that is no call", line, "");
                continue;
            }
            String given = Stream.of(call.group(3).split(", ")).map(word -> named.getOrDefault(word, word))
                    .collect(Collectors.joining(", "));
            String answer = Calls.run(call.group(2) + "(" + given + ")", ferry);
            String due = call.group(4).split(", ")[0];
            Check.same(line, answer.replaceAll("throws java\\.\\w+\\.", "throws "), due);
            methods.add(call.group(2));
            if (call.group(1) != null) {
                named.put(call.group(1), answer);
            }
        }
        Check.isTrue("the example uses many methods", methods.size() > 15);
    }

    /** Who is said to refuse something by an exception has it in its head. */
    private static void bounds(List<String> lines) {
        int rows = 0;
        for (String line : lines) {
            Matcher row = BOUND.matcher(line);
            if (!row.matches()) {
                continue;
            }
            rows++;
            for (String name : row.group(2).replace("`", "").split(", ")) {
                boolean isThrown = Arrays.stream(Calls.method(Patchferry.class, name).getExceptionTypes())
                        .anyMatch(thrown -> thrown.getSimpleName().equals(row.group(1)));
                Check.isTrue(name + " throws " + row.group(1), isThrown);
            }
        }
        Check.same("rows of the bounds with methods", rows, 8);
    }

    private static void tests(List<String> lines) throws IOException {
        Set<String> named = new TreeSet<>();
        for (String line : lines) {
            Matcher test = Pattern.compile("`(\\w+Test)`").matcher(line.startsWith("| `") ? line : "");
            while (test.find()) {
                named.add(test.group(1));
            }
        }
        try (Stream<Path> files = Files.list(Path.of("src/test/java"))) {
            String there = files.map(file -> file.getFileName().toString()).filter(name -> name.endsWith("Test.java"))
                    .map(name -> name.replace(".java", "")).sorted().collect(Collectors.joining(", ", "[", "]"));
            Check.same("the tests that are named", named.toString(), there);
        }
    }
}
