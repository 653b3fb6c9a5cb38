import java.util.ArrayList;
import java.util.List;

/** Objects with something of everything, made by the same calls on whatever has the face. */
final class Scene {
    private Scene() {
    }

    /**
     * Files: 0 is a base of 20 bytes, 1 and 2 have one byte of it changed, 3 its halves the other way round, 4 is
     * neither a program nor packed, 5 is its beginning of 12, 6 takes 11 operations. Patches: 0 to 3 from the base
     * to 1, 2, 3, 6, then from 1 and from 4 to the base. Patch 2 is half done, 0 and 1 have clashed at 11.
     */
    static List<String> some() {
        List<String> calls = new ArrayList<>();
        for (int value = 0; value < 20; value++) {
            calls.add("type(" + value + ")");
        }
        calls.addAll(List.of("file()", "quote(0, 0, 10)", "type(99)", "quote(0, 11, 9)", "file()",
                "quote(0, 0, 11)", "type(98)", "quote(0, 12, 8)", "file()", "quote(0, 10, 10)", "quote(0, 0, 10)",
                "file()", "type(200)", "type(255)", "file()", "quote(0, 0, 12)", "file()"));
        for (int place : new int[] {0, 6, 12, 3, 9}) {
            calls.add("type(99)");
            calls.add("quote(0, " + place + ", 4)");
        }
        calls.addAll(List.of("type(99)", "file()", "make(0, 1)", "make(0, 2)", "make(0, 3)", "make(0, 6)",
                "make(1, 0)", "make(4, 0)", "version(0)", "version(1)", "version(3)", "setKey(1, true)",
                "setCount(0, 5)", "setCount(1, 7)", "store(0)", "store(1)", "drop(1)", "setFolder(0, 1)",
                "setFolder(1, 2)", "load(0)", "setCut(1)", "lay(2)", "setCut(3)", "merge(0, 1)", "type(7)", "type(8)",
                "letter(r)", "letter(a)"));
        return calls;
    }

    /** The same with 24 files, 20 patches, 12 versions, 200 bytes in the buffer and 12 letters. */
    static List<String> full() {
        List<String> calls = some();
        for (int file = 7; file < 24; file++) {
            calls.add("file()");
        }
        for (int patch = 6; patch < 20; patch++) {
            calls.add("make(0, 1)");
        }
        for (int version = 3; version < 12; version++) {
            calls.add("version(" + version % 2 + ")");
        }
        for (int letter = 2; letter < 12; letter++) {
            calls.add("letter(z)");
        }
        calls.add("repeat(5, 200)");
        return calls;
    }

    static void play(List<String> calls, Object... objects) {
        for (String call : calls) {
            Calls.run(call, objects);
        }
    }

    static Patchferry played(List<String> calls) {
        Patchferry x = new Patchferry();
        play(calls, x);
        return x;
    }

    /** All that an object holds, also what can only be told by changing it. */
    static String told(Patchferry x, boolean isClashTold) {
        StringBuilder all = new StringBuilder(Picture.of(x));
        List<String> calls = new ArrayList<>(List.of("letter(i)", "letter(s)", "letter(e)", "doWord()", "type(1)",
                "file()", "setCut(-1)", "goOn()", "goOn()", "collect()", "stored()", "isSound()"));
        for (int number = 0; number < 24; number++) {
            calls.addAll(List.of("setFolder(" + number + ", 0)", "drop(" + number + ")", "isOn(" + number + ")",
                    "setKey(" + number + ", true)", "setCount(" + number + ", 0)"));
        }
        calls.addAll(List.of("collect()", "at(7, 0)", "at(7, 1)", "at(7, 2)", "length(7)"));
        if (isClashTold) {
            calls.add("clash()");
        }
        for (String call : calls) {
            all.append('\n').append(call).append(' ').append(Calls.run(call, x));
        }
        return all.toString();
    }
}
