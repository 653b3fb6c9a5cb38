import com.sun.source.tree.CompilationUnitTree;
import com.sun.source.util.JavacTask;
import com.sun.source.util.Trees;
import java.io.IOException;
import java.nio.file.Files;
import java.nio.file.Path;
import java.util.List;
import javax.tools.JavaCompiler;
import javax.tools.StandardJavaFileManager;
import javax.tools.ToolProvider;

/** Looks for what ../shared/LANGUAGE.md rules out, in the class's text and in the tree that the compiler makes of it. */
public final class LanguageTest {
    private static final List<String> IMPORTS = List.of("java.util.ArrayList", "java.util.NoSuchElementException");

    public static void main(String[] args) throws IOException {
        signs(Path.of(args[0]));
        JavaCompiler compiler = ToolProvider.getSystemJavaCompiler();
        try (StandardJavaFileManager files = compiler.getStandardFileManager(null, null, null)) {
            JavacTask task = (JavacTask) compiler.getTask(null, files, null, List.of("-proc:none"), null,
                    files.getJavaFileObjects(args[0]));
            CompilationUnitTree unit = task.parse().iterator().next();
            task.analyze();
            Check.isTrue("no package line", unit.getPackage() == null);
            unit.getImports().forEach(one -> Check.isTrue("imported: " + one,
                    IMPORTS.contains(one.getQualifiedIdentifier().toString())));
            Rules rules = new Rules(unit, Trees.instance(task));
            rules.scan(unit, null);
            rules.end();
        }
        Check.end("LanguageTest");
    }

    /** Rule 4: signs are 1 to 127. */
    private static void signs(Path source) throws IOException {
        for (String line : Files.readAllLines(source)) {
            Check.isTrue("a sign beyond 127: " + line, line.matches("[ -~]*"));
        }
    }
}
