import java.lang.reflect.InvocationTargetException;
import java.lang.reflect.Method;
import java.lang.reflect.Modifier;
import java.util.Arrays;
import java.util.Comparator;
import java.util.List;

/** The calls of the face by their names, on the class and on the Model. */
final class Calls {
    /**
     * The methods, and what each one is given: b a byte, m how many, f a file, p a place, l a letter, q a patch,
     * o an operation, i an index, v a version, z true or false, or a range.
     */
    static final List<String> GIVEN = List.of("type b", "repeat b m", "quote f p m", "file", "length f",
            "at f p", "isSame f f", "letter l", "doWord", "endAt f p", "matchLength f f p", "matchPlace f f p",
            "slack f p f p", "make f f", "operations q", "kindOf q o", "fromOf q o", "lengthOf q o", "signAt q i",
            "bytes q", "apply q f", "compose q q", "merge q q", "clash", "pieces f", "pieceLength f o", "store f",
            "drop f", "collect", "stored", "likeness f f", "setFolder f 0:2", "renamed f", "literals f f 2:64",
            "falseOnes f f 2:64", "wire f f 2:64", "bestLength f f", "labels f", "label f", "unlabel f",
            "labelledBytes f f", "pack f 1:3", "unpack f", "modeOf f", "insideBytes f f", "load f", "setCut -1:10",
            "lay q", "goOn", "isWhole", "savedBytes", "orderAt o", "diskLength", "onDisk p", "isOn f", "version f",
            "setKey v z", "fetch v", "route v v", "chain v v", "setCount v 0:99", "fleet 0:12", "rootOf f",
            "proves f f o", "liar f f", "files", "sumOf f", "share q", "meanLength", "isSound");

    private Calls() {
    }

    static Method method(Class<?> from, String name) {
        return Arrays.stream(from.getDeclaredMethods())
                .filter(method -> method.getName().equals(name) && Modifier.isPublic(method.getModifiers()))
                .max(Comparator.comparing(Method::getParameterCount)).orElseThrow();
    }

    /** What a call answers, or "throws" and the exception's name. */
    static String answer(Object asked, String name, Object... given) {
        try {
            return String.valueOf(method(asked.getClass(), name).invoke(asked, given));
        } catch (InvocationTargetException e) {
            boolean isOwn = asked instanceof Model || Check.isOwn(e.getCause());
            return (isOwn ? "throws " : "the machine throws ") + e.getCause().getClass().getName();
        } catch (IllegalAccessException e) {
            return "can not be called";
        }
    }

    /** A call as it is written, such as setKey(1, true): on one object or more. */
    static String run(String written, Object... objects) {
        String name = written.substring(0, written.indexOf('('));
        String inside = written.substring(written.indexOf('(') + 1, written.length() - 1);
        String[] words = inside.isEmpty() ? new String[0] : inside.split(", ");
        Class<?>[] kinds = method(Patchferry.class, name).getParameterTypes();
        Object[] given = new Object[kinds.length];
        for (int k = 0; k < given.length; k++) {
            if (kinds[k] == boolean.class) {
                given[k] = Boolean.valueOf(words[k]);
            } else if (kinds[k] == char.class) {
                given[k] = words[k].charAt(0);
            } else {
                given[k] = Integer.valueOf(words[k]);
            }
        }
        String answer = "";
        for (Object asked : objects) {
            answer = answer(asked, name, given);
        }
        return answer;
    }
}
