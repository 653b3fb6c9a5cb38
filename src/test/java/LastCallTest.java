import java.util.ArrayList;
import java.util.List;

/** "An object is used for at most 512 calls": each method as the 511th and as the 512th one, in several objects. */
public final class LastCallTest {
    /** Each method with an answer, and such as are refused. */
    private static final List<String> LAST = List.of("type(255)", "repeat(9, 3)", "quote(0, 2, 5)", "file()", "length(3)",
            "at(1, 10)", "isSame(0, 1)", "isSame(0, 0)", "letter(z)", "doWord()", "endAt(0, 19)", "matchLength(0, 3, 0)",
            "matchPlace(0, 3, 0)", "slack(0, 0, 1, 0)", "make(0, 3)", "operations(3)", "kindOf(3, 1)", "fromOf(3, 1)",
            "lengthOf(3, 1)", "signAt(3, 3)", "bytes(3)", "apply(2, 0)", "compose(0, 4)", "merge(0, 0)", "merge(0, 1)",
            "clash()", "pieces(0)", "pieceLength(0, 0)", "store(3)", "drop(0)", "collect()", "stored()", "likeness(0, 0)",
            "setFolder(0, 2)", "renamed(1)", "literals(0, 3, 5)", "falseOnes(0, 3, 2)", "wire(0, 3, 5)",
            "bestLength(0, 3)", "labels(0)", "label(0)", "unlabel(0)", "labelledBytes(0, 3)", "pack(0, 2)", "unpack(0)",
            "modeOf(0)", "insideBytes(0, 3)", "load(1)", "setCut(2)", "lay(2)", "goOn()", "isWhole()", "savedBytes()",
            "orderAt(1)", "diskLength()", "onDisk(19)", "isOn(0)", "version(3)", "setKey(2, true)", "fetch(2)",
            "route(0, 2)", "chain(0, 2)", "setCount(0, 99)", "fleet(2)", "rootOf(0)", "proves(0, 3, 1)", "liar(0, 3)",
            "files()", "sumOf(0)", "share(0)", "meanLength()", "isSound()");

    public static void main(String[] args) {
        eachAsTheLastOne();
        filledByThe512th();
        dearCalls();
        Check.end("LastCallTest");
    }

    private static void eachAsTheLastOne() {
        List<String> full = Scene.full();
        for (List<String> scene : List.of(Scene.some(), full)) {
            for (String call : LAST) {
                Patchferry x = new Patchferry();
                Model model = new Model();
                List<String> ahead = new ArrayList<>(scene);
                for (int k = 0; ahead.size() < 510; k++) {
                    ahead.add(LAST.get((k * 7 + scene.size()) % LAST.size()));
                }
                Scene.play(ahead, x, model);
                String due = Calls.run(call, model);
                Check.same("the 511th call, " + call, Calls.run(call, x), due);
                due = Calls.run(call, model);
                Check.same("the 512th call, " + call, Calls.run(call, x), due);
            }
        }
        for (String call : LAST) {
            Patchferry x = Scene.played(Scene.some());
            Model model = new Model();
            Scene.play(Scene.some(), model);
            for (int calls = Scene.some().size(); calls < 511; calls++) {
                Check.same("a call in between", x.files(), model.files());
            }
            Check.same("the 512th call behind the scene, " + call, Calls.run(call, x), Calls.run(call, model));
        }
    }

    /** What there is room for is still there at the end. */
    private static void filledByThe512th() {
        Patchferry x = new Patchferry();
        int calls = 0;
        for (int file = 0; file < 23; file++, calls += 2) {
            x.repeat(file, 200);
            x.file();
        }
        for (int patch = 0; patch < 19; patch++, calls++) {
            x.make(patch, patch + 1);
        }
        for (int version = 0; version < 11; version++, calls++) {
            x.version(version);
        }
        for (; calls < 506; calls++) {
            Check.same("length", x.length(22), 200);
        }
        Check.same("the 20th patch as call 507", x.make(0, 0), 19);
        Check.same("the 12th version as call 508", x.version(22), 11);
        Check.same("200 bytes as call 509", x.repeat(1, 200), 200);
        Check.same("the 24th file as call 510", x.file(), 23);
        Check.same("it is kept, at call 511", x.at(23, 199), 1);
        Check.same("all is kept, at call 512", x.meanLength(), 200.0);
    }

    /** 512 calls, nearly all of them the dearest ones, on the longest files. */
    private static void dearCalls() {
        Dice dice = new Dice(16);
        List<String> dear = List.of("isSound()", "fetch(11)", "route(0, 11)", "fleet(12)", "insideBytes(0, 1)",
                "labelledBytes(0, 1)", "bestLength(0, 1)", "liar(0, 1)", "likeness(0, 1)", "endAt(0, 199)",
                "chain(0, 11)", "make(0, 1)", "merge(0, 1)", "store(0)", "drop(0)", "renamed(1)", "setFolder(0, 1)",
                "setFolder(1, 2)", "load(0)", "lay(0)", "signAt(0, 0)");
        Patchferry x = new Patchferry();
        Model model = new Model();
        List<String> calls = new ArrayList<>();
        for (int file = 0; file < 12; file++) {
            for (int k = 0; k < 8; k++) {
                boolean isFresh = k == 0 || file == 0;
                String part = isFresh ? "repeat(" + dice.below(4) + ", 24)" : "quote(0, " + (24 * k + dice.below(3)) + ", 21)";
                calls.add(part);
                calls.add("type(" + dice.below(256) + ")");
            }
            calls.add("file()");
            calls.add("version(" + file + ")");
        }
        for (int k = 0; calls.size() < 512; k++) {
            calls.add(dear.get(k % dear.size()));
        }
        for (String call : calls) {
            Check.same(call, Calls.run(call, x), Calls.run(call, model));
        }
    }
}
