import java.io.IOException;
import java.lang.reflect.Constructor;
import java.lang.reflect.Field;
import java.lang.reflect.Method;
import java.lang.reflect.Modifier;
import java.nio.file.Files;
import java.nio.file.Path;
import java.util.ArrayList;
import java.util.Arrays;
import java.util.List;
import java.util.Set;
import java.util.TreeSet;

/** The class has the face of the document, and nothing else that can be seen: promises 1 to 71 and rule 1. */
public final class FaceTest {
    public static void main(String[] args) throws IOException {
        Set<String> due = faceOf(Path.of(args[1]));
        Set<String> got = new TreeSet<>();
        for (Constructor<?> maker : Patchferry.class.getDeclaredConstructors()) {
            got.add(Modifier.toString(maker.getModifiers()) + " Patchferry(" + maker.getParameterCount() + ")");
        }
        List<String> hidden = new ArrayList<>();
        Set<String> names = new TreeSet<>();
        for (Method method : Patchferry.class.getDeclaredMethods()) {
            if (Modifier.isPrivate(method.getModifiers())) {
                hidden.add(method.getName());
            } else {
                got.add(signature(method));
                names.add(method.getName());
            }
        }
        Check.same("the face", String.join("\n", got), String.join("\n", due));
        Check.same("methods of the face", names.size(), 70);
        for (Class<?> inside : Patchferry.class.getDeclaredClasses()) {
            for (Method method : inside.getDeclaredMethods()) {
                hidden.add(method.getName());
            }
        }
        hidden.retainAll(names);
        Check.same("methods with public names that are not the face", hidden.toString(), "[]");
        fields();
        Check.end("FaceTest");
    }

    private static void fields() {
        Check.isTrue("public and final", Modifier.toString(Patchferry.class.getModifiers()).equals("public final"));
        for (Field field : Patchferry.class.getDeclaredFields()) {
            Check.isTrue(field.getName() + " is private", Modifier.isPrivate(field.getModifiers()));
            boolean isStatic = Modifier.isStatic(field.getModifiers());
            Check.isTrue(field.getName() + " is constant", !isStatic || Modifier.isFinal(field.getModifiers()));
        }
        Class<?>[] inside = Patchferry.class.getDeclaredClasses();
        Check.isTrue("few classes", inside.length <= 12);
        for (Class<?> one : inside) {
            Check.isTrue(one.getName() + " is static", Modifier.isStatic(one.getModifiers()));
            Check.isFalse(one.getName() + " is public", Modifier.isPublic(one.getModifiers()));
        }
    }

    private static String signature(Method method) {
        String[] kinds = Arrays.stream(method.getParameterTypes()).map(Class::getSimpleName).toArray(String[]::new);
        String[] thrown = Arrays.stream(method.getExceptionTypes()).map(Class::getSimpleName).toArray(String[]::new);
        return Modifier.toString(method.getModifiers()) + " " + method.getReturnType().getSimpleName() + " "
                + method.getName() + "(" + String.join(", ", kinds) + ") " + String.join(", ", thrown);
    }

    /** The lines of the document's first block of Java, without the names of what is given. */
    private static Set<String> faceOf(Path document) throws IOException {
        Set<String> face = new TreeSet<>();
        for (String line : Files.readAllLines(document)) {
            if (!line.startsWith("    public ")) {
                continue;
            }
            String head = line.trim().replace(";", "");
            if (head.equals("public Patchferry()")) {
                face.add("public Patchferry(0)");
                continue;
            }
            String given = head.substring(head.indexOf('(') + 1, head.indexOf(')'));
            List<String> kinds = new ArrayList<>();
            for (String one : given.isEmpty() ? new String[0] : given.split(", ")) {
                kinds.add(one.split(" ")[0]);
            }
            String thrown = head.contains(" throws ") ? head.substring(head.indexOf(" throws ") + 8) : "";
            face.add(head.substring(0, head.indexOf('(') + 1) + String.join(", ", kinds) + ") " + thrown);
        }
        return face;
    }
}
