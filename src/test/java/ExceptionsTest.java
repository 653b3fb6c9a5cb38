import java.util.List;

/**
 * "A method that throws an exception changes nothing, but what clash() tells. If several exceptions apply, the one
 * that is listed first is thrown": each row below names a call, what it must throw, and what else would apply.
 */
public final class ExceptionsTest {
    private static final String INDEX = "java.lang.IndexOutOfBoundsException";
    private static final String ARGUMENT = "java.lang.IllegalArgumentException";
    private static final String STATE = "java.lang.IllegalStateException";
    private static final String UNSUPPORTED = "java.lang.UnsupportedOperationException";
    private static final String NONE = "java.util.NoSuchElementException";

    public static void main(String[] args) {
        numbersAheadOfAll();
        rangesAheadOfWhatIsFull();
        whatIsNotSupportedAheadOfWhatIsFull();
        whatIsFullAlone();
        theStateOfTheDisk();
        whatIsNotThere();
        refusedWithRoomLeft();
        aClashIsTold();
        onANewObject();
        Check.end("ExceptionsTest");
    }

    private static void refused(List<String> scene, String due, String... calls) {
        for (String call : calls) {
            Patchferry x = Scene.played(scene);
            Patchferry twin = Scene.played(scene);
            Model model = new Model();
            Scene.play(scene, model);
            Check.same(call, Calls.run(call, x), "throws " + due);
            Check.same(call + " of the model", Calls.run(call, model), "throws " + due);
            Check.same(call + "; what is left", Scene.told(x, true), Scene.told(twin, true));
        }
    }

    private static void full(String due, String... calls) {
        refused(Scene.full(), due, calls);
    }

    private static void some(String due, String... calls) {
        refused(Scene.some(), due, calls);
    }

    /** No such file, patch, version or place; what is behind is out of range, not supported, full or half done, too. */
    private static void numbersAheadOfAll() {
        full(INDEX, "quote(24, 0, 1)", "quote(24, -1, 0)", "quote(-1, 0, 201)", "make(24, 0)", "make(0, 24)",
                "make(-1, -1)", "apply(20, 0)", "apply(0, 24)", "apply(-1, 4)", "compose(20, 0)", "compose(0, 20)",
                "compose(-1, -1)", "merge(20, 0)", "merge(0, 20)", "merge(-1, 4)", "store(24)", "drop(24)",
                "setFolder(24, 3)", "setFolder(-1, -1)", "literals(24, 0, 1)", "literals(0, 24, 65)",
                "falseOnes(24, 0, 1)", "falseOnes(0, -1, 65)", "wire(-1, 0, 1)", "wire(0, 24, 65)", "label(24)",
                "label(-1)", "unlabel(24)", "unlabel(-1)", "labelledBytes(4, 24)", "labelledBytes(24, 4)",
                "pack(24, 0)", "pack(-1, 4)", "unpack(24)", "unpack(-1)", "lay(20)", "lay(-1)", "version(24)",
                "version(-1)", "setKey(12, false)", "setKey(-1, false)", "chain(12, 0)", "chain(0, 12)",
                "chain(-1, -1)", "chain(12, 12)", "setCount(12, 100)", "setCount(-1, -1)", "proves(24, 0, 9)",
                "proves(0, 24, 9)", "proves(0, 5, 3)", "proves(0, 5, -1)", "proves(5, 0, 2)", "liar(24, 0)",
                "liar(5, -1)", "matchPlace(24, 0, 0)", "matchPlace(4, 0, 20)", "matchPlace(4, 5, 12)", "fromOf(20, 0)",
                "fromOf(3, 11)", "renamed(24)", "labels(24)", "share(20)");
    }

    private static void rangesAheadOfWhatIsFull() {
        full(ARGUMENT, "type(256)", "type(-1)", "repeat(256, 1)", "repeat(-1, 1)", "repeat(0, 0)", "repeat(0, 201)",
                "repeat(256, 201)", "quote(0, 0, 0)", "quote(0, 0, 201)", "quote(0, 20, 1)", "quote(0, -1, 1)",
                "quote(0, 1, 20)", "letter(A)", "letter({)", "pack(0, 0)", "pack(0, 4)", "pack(4, 0)", "chain(1, 1)",
                "chain(11, 0)", "setCount(0, 100)", "setFolder(0, 3)", "setCut(11)", "setCut(-2)", "fleet(13)",
                "fleet(-1)", "literals(0, 0, 1)", "falseOnes(0, 0, 65)", "wire(0, 0, 0)");
    }

    private static void whatIsNotSupportedAheadOfWhatIsFull() {
        full(UNSUPPORTED, "apply(0, 1)", "apply(4, 0)", "compose(0, 0)", "compose(0, 5)", "merge(0, 4)", "merge(0, 2)",
                "merge(2, 0)", "merge(2, 4)", "label(4)", "unlabel(4)", "unpack(4)", "setKey(0, false)", "store(0)",
                "drop(1)", "proves(0, 5, 0)", "liar(0, 5)");
    }

    private static void whatIsFullAlone() {
        full(STATE, "type(0)", "type(255)", "repeat(0, 1)", "repeat(255, 200)", "quote(0, 0, 1)", "quote(0, 19, 1)",
                "file()", "letter(a)", "letter(z)", "make(0, 1)", "make(0, 0)", "apply(0, 0)", "compose(0, 4)",
                "merge(0, 0)", "label(0)", "unlabel(0)", "pack(0, 1)", "unpack(0)", "version(0)", "chain(0, 1)",
                "chain(0, 11)");
    }

    /** Half done: no other patch may begin, even one that could not be laid; at its end, none can go on. */
    private static void theStateOfTheDisk() {
        some(INDEX, "lay(6)", "lay(-1)");
        some(STATE, "lay(0)", "lay(2)", "lay(3)", "lay(5)");
        List<String> atTheEnd = Scene.some();
        atTheEnd.add("goOn()");
        refused(atTheEnd, STATE, "goOn()");
        refused(atTheEnd, UNSUPPORTED, "lay(2)", "lay(0)", "lay(3)");
        refused(atTheEnd, INDEX, "orderAt(2)", "orderAt(-1)", "onDisk(20)", "onDisk(-1)", "isOn(7)");
        List<String> loaded = Scene.some();
        loaded.add("load(0)");
        refused(loaded, STATE, "goOn()");
        refused(loaded, UNSUPPORTED, "lay(3)", "lay(4)", "lay(5)");
        refused(loaded, NONE, "savedBytes()");
        refused(loaded, INDEX, "orderAt(0)", "lay(6)");
    }

    private static void whatIsNotThere() {
        some(NONE, "matchPlace(4, 0, 0)", "matchPlace(0, 4, 1)", "fromOf(3, 0)", "fromOf(3, 10)", "renamed(0)",
                "renamed(2)", "labels(4)", "labelledBytes(4, 0)", "labelledBytes(0, 4)", "labelledBytes(4, 4)");
        some(INDEX, "length(7)", "at(0, 20)", "at(7, 0)", "isSame(0, 7)", "isSame(7, 0)", "endAt(0, 20)",
                "endAt(0, -1)", "matchLength(0, 1, 20)", "slack(0, 21, 1, 0)", "slack(0, 0, 1, 21)", "operations(6)",
                "kindOf(0, 1)", "lengthOf(0, 1)", "signAt(0, 7)", "bytes(6)", "pieces(7)", "pieceLength(0, 3)",
                "likeness(0, 7)", "likeness(7, 0)", "bestLength(0, 7)", "modeOf(7)", "insideBytes(7, 0)",
                "insideBytes(0, 7)", "load(7)", "fetch(3)", "route(0, 3)", "route(3, 0)", "rootOf(7)", "sumOf(7)");
    }

    private static void refusedWithRoomLeft() {
        some(ARGUMENT, "type(256)", "repeat(0, 0)", "quote(0, 20, 1)", "letter(A)", "setFolder(0, -1)", "pack(0, 4)",
                "setCut(11)", "chain(1, 0)", "setCount(0, -1)", "fleet(13)", "wire(0, 0, 65)");
        some(STATE, "repeat(0, 199)");
        some(UNSUPPORTED, "apply(0, 1)", "compose(0, 0)", "merge(0, 2)", "merge(0, 4)", "store(0)", "drop(1)",
                "label(4)", "unlabel(4)", "unpack(4)", "setKey(0, false)", "proves(0, 5, 0)", "liar(0, 5)");
    }

    /** But what clash() tells: with 24 files, too, and nothing else is changed. */
    private static void aClashIsTold() {
        for (List<String> scene : List.of(Scene.some(), Scene.full())) {
            Patchferry x = Scene.played(scene);
            Patchferry twin = Scene.played(scene);
            Check.same("clash()", x.clash(), 11);
            Check.same("merge(0, 3)", Calls.run("merge(0, 3)", x), "throws " + UNSUPPORTED);
            Check.same("clash() by then", x.clash(), 11);
            Check.same("merge(1, 0)", Calls.run("merge(1, 0)", x), "throws " + UNSUPPORTED);
            Check.same("what is left", Scene.told(x, false), Scene.told(twin, false));
        }
        Patchferry y = new Patchferry();
        Check.put(y);
        y.make(0, Check.put(y, 1));
        y.make(0, Check.put(y, 2));
        String before = Scene.told(twinOf(y), false);
        Check.same("merge(0, 1)", Calls.run("merge(0, 1)", y), "throws " + UNSUPPORTED);
        Check.same("clash()", y.clash(), 0);
        Check.same("what is left", Scene.told(y, false), before);
    }

    private static Patchferry twinOf(Patchferry y) {
        Patchferry twin = new Patchferry();
        for (int file = 0; file < y.files(); file++) {
            Check.put(twin, Check.read(y, file));
        }
        twin.make(0, 1);
        twin.make(0, 2);
        return twin;
    }

    private static void onANewObject() {
        List<String> none = List.of();
        refused(none, NONE, "clash()", "savedBytes()", "meanLength()", "fleet(0)", "fleet(12)", "fleet(13)", "fleet(-1)");
        refused(none, STATE, "goOn()");
        refused(none, ARGUMENT, "type(256)", "repeat(0, 0)", "letter(`)", "setCut(-2)");
        refused(none, INDEX, "quote(0, 0, 0)", "length(0)", "at(0, 0)", "isSame(0, 0)", "endAt(0, 0)",
                "matchLength(0, 0, 0)", "matchPlace(0, 0, 0)", "slack(0, 0, 0, 0)", "make(0, 0)", "operations(0)",
                "kindOf(0, 0)", "fromOf(0, 0)", "lengthOf(0, 0)", "signAt(0, 0)", "bytes(0)", "apply(0, 0)",
                "compose(0, 0)", "merge(0, 0)", "pieces(0)", "pieceLength(0, 0)", "store(0)", "drop(0)", "likeness(0, 0)",
                "setFolder(0, 3)", "renamed(0)", "literals(0, 0, 1)", "falseOnes(0, 0, 1)", "wire(0, 0, 1)",
                "bestLength(0, 0)", "labels(0)", "label(0)", "unlabel(0)", "labelledBytes(0, 0)", "pack(0, 0)",
                "unpack(0)", "modeOf(0)", "insideBytes(0, 0)", "load(0)", "lay(0)", "orderAt(0)", "onDisk(0)", "isOn(0)",
                "version(0)", "setKey(0, false)", "fetch(0)", "route(0, 0)", "chain(0, 0)", "setCount(0, 100)",
                "rootOf(0)", "proves(0, 0, 0)", "liar(0, 0)", "sumOf(0)", "share(0)");
    }
}
