import java.io.IOException;
import java.nio.file.Files;
import java.nio.file.Path;
import java.util.List;
import java.util.Set;
import java.util.regex.Matcher;
import java.util.regex.Pattern;

/** Looks for what ../shared/LANGUAGE.md rules out, as far as the text of the class shows it. */
public final class LanguageTest {
    private static final Set<String> LIBRARY = Set.of("Math.max", "Math.min", "Math.abs", "Patch.costOf");
    private static final Set<String> IMPORTS = Set.of("java.util.ArrayList", "java.util.NoSuchElementException");
    private static final Pattern THROW = Pattern.compile("throw new (IllegalStateException|IllegalArgumentException"
            + "|IndexOutOfBoundsException|UnsupportedOperationException|NoSuchElementException)\\(\"[ -~]*\"\\);");

    public static void main(String[] args) throws IOException {
        List<String> lines = Files.readAllLines(Path.of(args[0]));
        int classes = 1;
        int methodLines = 0;
        int fields = 0;
        for (String line : lines) {
            String code = line.replaceAll("\"[^\"]*\"", "\"\"").replaceAll("//.*|/\\*.*|^ *\\*.*", "");
            words(line, code);
            library(line, code);
            if (code.contains("class ") && classes++ > 0) {
                fields = 0;
            }
            boolean isField = code.matches(" +private (final )?[\\w<>\\[\\]]+ \\w+( = .*)?;");
            fields += isField ? 1 : 0;
            Check.isTrue("at most twenty fields: " + line, fields <= 20);
            Check.isTrue("final static fields: " + line, !code.matches(".* static .*(=|;).*") || code.contains(" final "));
            boolean isHead = code.matches("( {4}| {8})[\\w].*\\) ?(throws .*)?\\{") || code.matches(" +throws .*\\{");
            methodLines = isHead ? 1 : methodLines + 1;
            boolean ends = code.matches("( {4}| {8})\\}");
            Check.isTrue("at most sixty lines up to: " + line, !ends || methodLines <= 60 || code.startsWith("    }"));
            Check.isTrue("at most seven parameters: " + line, !isHead || code.split(",").length <= 10);
            methodLines = ends ? 0 : methodLines;
        }
        Check.isTrue("at most twelve classes and the public one", classes <= 13);
        Check.end("LanguageTest");
    }

    private static void words(String line, String code) {
        String ruledOut = ".*(->|::|\\b(try|catch|finally|synchronized|assert|instanceof|switch|protected|interface"
                + "|package|native|volatile|transient|this\\.getClass|hashCode|toCharArray|var)\\b).*";
        Check.isFalse("ruled out: " + line, code.matches(ruledOut));
        Check.isFalse("texts joined by +: " + line, code.contains("\"\" +") || code.contains("+ \"\""));
        Check.isFalse("a sign beyond 127: " + line, !line.matches("[ -~]*"));
        if (code.contains("throw ")) {
            Check.isTrue("thrown so: " + line, THROW.matcher(line.trim()).matches());
        }
        if (code.startsWith("import ")) {
            Check.isTrue("imported: " + line, IMPORTS.contains(code.substring(7, code.length() - 1)));
        }
    }

    private static void library(String line, String code) {
        Matcher call = Pattern.compile("\\b([A-Z]\\w*\\.[a-z]\\w*)\\(").matcher(code);
        while (call.find()) {
            Check.isTrue("the library has " + call.group(1) + ": " + line, LIBRARY.contains(call.group(1)));
        }
    }
}
