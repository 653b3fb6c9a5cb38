import java.util.NoSuchElementException;

/** Promises 1 to 10, 67, 68 and 70. */
public final class FilesTest {
    private static final Class<IllegalArgumentException> ARGUMENT = IllegalArgumentException.class;
    private static final Class<IllegalStateException> STATE = IllegalStateException.class;
    private static final Class<IndexOutOfBoundsException> INDEX = IndexOutOfBoundsException.class;

    public static void main(String[] args) {
        promise1New();
        promise2Type();
        promise3Repeat();
        promise4Quote();
        promise5File();
        promise6Length();
        promise7At();
        promise8IsSame();
        promise9Letter();
        promise10DoWord();
        figures();
        sumsOfManyFiles();
        Check.end("FilesTest");
    }

    private static void promise1New() {
        Patchferry x = new Patchferry();
        Check.same("files() of a new object", x.files(), 0);
        Check.fails("operations(0)", x, INDEX, () -> x.operations(0));
        Check.fails("fetch(0)", x, INDEX, () -> x.fetch(0));
        Check.same("diskLength()", x.diskLength(), 0);
        Check.isTrue("isWhole()", x.isWhole());
        Check.same("stored()", x.stored(), 0);
        Check.same("the buffer of a new object", x.type(1), 1);
        Check.same("the word of a new object", x.letter('a'), 1);
        Check.same("the cut of a new object", x.setCut(3), -1);
        Patchferry other = new Patchferry();
        Check.same("a second object", other.files() + other.type(5), 1);
    }

    private static void promise2Type() {
        Patchferry x = new Patchferry();
        Check.same("type(0)", x.type(0), 1);
        Check.same("type(255)", x.type(255), 2);
        Check.fails("type(-1)", x, ARGUMENT, () -> x.type(-1));
        Check.fails("type(256)", x, ARGUMENT, () -> x.type(256));
        Check.same("repeat to 200", x.repeat(9, 198), 200);
        Check.fails("type into a full buffer", x, STATE, () -> x.type(1));
        Check.fails("type(256) into a full buffer", x, ARGUMENT, () -> x.type(256));
        Check.same("the full buffer's file", x.file(), 0);
        Check.same("its length", x.length(0), 200);
        Check.same("its first byte", x.at(0, 0), 0);
        Check.same("its second byte", x.at(0, 1), 255);
    }

    private static void promise3Repeat() {
        Patchferry x = new Patchferry();
        Check.same("repeat(3, 1)", x.repeat(3, 1), 1);
        Check.fails("repeat(3, 0)", x, ARGUMENT, () -> x.repeat(3, 0));
        Check.fails("repeat(3, -1)", x, ARGUMENT, () -> x.repeat(3, -1));
        Check.fails("repeat(3, 201)", x, ARGUMENT, () -> x.repeat(3, 201));
        Check.fails("repeat(256, 1)", x, ARGUMENT, () -> x.repeat(256, 1));
        Check.fails("repeat(-1, 1)", x, ARGUMENT, () -> x.repeat(-1, 1));
        Check.fails("repeat(3, 200) behind one", x, STATE, () -> x.repeat(3, 200));
        Check.same("repeat(4, 199)", x.repeat(4, 199), 200);
        Check.fails("repeat(4, 1) into a full buffer", x, STATE, () -> x.repeat(4, 1));
        Check.fails("repeat(256, 1) into a full buffer", x, ARGUMENT, () -> x.repeat(256, 1));
        x.file();
        Check.same("the bytes", Check.read(x, 0), Check.join(new int[] {3}, Check.row(4, 199)));
        Check.same("repeat(1, 200)", x.repeat(1, 200), 200);
    }

    private static void promise4Quote() {
        Patchferry x = new Patchferry();
        Check.fails("quote of no file", x, INDEX, () -> x.quote(0, 0, 0));
        Check.put(x, 1, 2, 3, 4, 5);
        Check.same("quote(0, 1, 3)", x.quote(0, 1, 3), 3);
        Check.same("quote(0, 4, 1)", x.quote(0, 4, 1), 4);
        Check.same("quote(0, 0, 5)", x.quote(0, 0, 5), 9);
        Check.fails("quote(1, 0, 1)", x, INDEX, () -> x.quote(1, 0, 1));
        Check.fails("quote(-1, 0, 0)", x, INDEX, () -> x.quote(-1, 0, 0));
        Check.fails("quote(0, 0, 0)", x, ARGUMENT, () -> x.quote(0, 0, 0));
        Check.fails("quote(0, 0, 201)", x, ARGUMENT, () -> x.quote(0, 0, 201));
        Check.fails("quote(0, -1, 2)", x, ARGUMENT, () -> x.quote(0, -1, 2));
        Check.fails("quote(0, 5, 1)", x, ARGUMENT, () -> x.quote(0, 5, 1));
        Check.fails("quote(0, 2, 4)", x, ARGUMENT, () -> x.quote(0, 2, 4));
        Check.fails("quote(0, far, 4)", x, ARGUMENT, () -> x.quote(0, Integer.MAX_VALUE, 4));
        Check.fails("quote(0, 0, far)", x, ARGUMENT, () -> x.quote(0, 0, Integer.MAX_VALUE));
        Check.same("quoted", x.repeat(0, 188), 197);
        Check.fails("quote(0, 0, 4) behind 197", x, STATE, () -> x.quote(0, 0, 4));
        Check.fails("quote(0, 3, 4) behind 197", x, ARGUMENT, () -> x.quote(0, 3, 4));
        Check.same("quote(0, 0, 3)", x.quote(0, 0, 3), 200);
        x.file();
        int[] head = {2, 3, 4, 5, 1, 2, 3, 4, 5};
        Check.same("the bytes", Check.read(x, 1), Check.join(head, Check.row(0, 188), new int[] {1, 2, 3}));
    }

    private static void promise5File() {
        Patchferry x = new Patchferry();
        for (int k = 0; k < 24; k++) {
            x.repeat(k, 1 + k);
            Check.same("file()", x.file(), k);
        }
        Check.same("the buffer is empty behind it", x.type(77), 1);
        Check.fails("the 25th file()", x, STATE, x::file);
        Check.same("the refused buffer stays", x.type(78), 2);
        Check.same("file 23", Check.read(x, 23), Check.row(23, 24));
        Patchferry y = new Patchferry();
        Check.same("a file of nothing", y.file(), 0);
        Check.same("its length", y.length(0), 0);
    }

    private static void promise6Length() {
        Patchferry x = new Patchferry();
        Check.put(x);
        Check.put(x, Check.row(8, 200));
        Check.same("length(0)", x.length(0), 0);
        Check.same("length(1)", x.length(1), 200);
        Check.fails("length(2)", x, INDEX, () -> x.length(2));
        Check.fails("length(-1)", x, INDEX, () -> x.length(-1));
        Check.fails("length(far)", x, INDEX, () -> x.length(Integer.MIN_VALUE));
    }

    private static void promise7At() {
        Patchferry x = new Patchferry();
        Check.put(x, 9, 0, 255);
        Check.same("at(0, 0)", x.at(0, 0), 9);
        Check.same("at(0, 2)", x.at(0, 2), 255);
        Check.fails("at(0, 3)", x, INDEX, () -> x.at(0, 3));
        Check.fails("at(0, -1)", x, INDEX, () -> x.at(0, -1));
        Check.fails("at(1, 0)", x, INDEX, () -> x.at(1, 0));
        x.type(200);
        Check.same("at(0, 0) while the buffer fills", x.at(0, 0), 9);
    }

    private static void promise8IsSame() {
        Patchferry x = new Patchferry();
        Check.put(x, 1, 2, 3);
        Check.put(x, 1, 2, 3);
        Check.put(x, 1, 2);
        Check.put(x, 1, 2, 4);
        Check.put(x);
        Check.put(x);
        Check.isTrue("isSame(0, 0)", x.isSame(0, 0));
        Check.isTrue("isSame(0, 1)", x.isSame(0, 1));
        Check.isFalse("isSame(0, 2)", x.isSame(0, 2));
        Check.isFalse("isSame(2, 0)", x.isSame(2, 0));
        Check.isFalse("isSame(0, 3)", x.isSame(0, 3));
        Check.isTrue("isSame(4, 5)", x.isSame(4, 5));
        Check.isFalse("isSame(4, 0)", x.isSame(4, 0));
        Check.fails("isSame(0, 6)", x, INDEX, () -> x.isSame(0, 6));
        Check.fails("isSame(-1, 0)", x, INDEX, () -> x.isSame(-1, 0));
    }

    private static void promise9Letter() {
        Patchferry x = new Patchferry();
        Check.same("letter a", x.letter('a'), 1);
        Check.same("letter z", x.letter('z'), 2);
        Check.fails("letter A", x, ARGUMENT, () -> x.letter('A'));
        Check.fails("letter behind z", x, ARGUMENT, () -> x.letter('{'));
        Check.fails("letter ahead of a", x, ARGUMENT, () -> x.letter('`'));
        Check.fails("letter 0", x, ARGUMENT, () -> x.letter((char) 0));
        for (int k = 3; k <= 12; k++) {
            Check.same("letter", x.letter('q'), k);
        }
        Check.fails("letter 13", x, STATE, () -> x.letter('a'));
        Check.fails("a wrong letter 13", x, ARGUMENT, () -> x.letter(' '));
        x.doWord();
        Check.same("letter of the next word", x.letter('a'), 1);
    }

    private static void promise10DoWord() {
        Patchferry x = new Patchferry();
        Check.same("no word", x.doWord(), -1);
        x.type(1);
        x.type(255);
        x.type(3);
        Check.same("raise", Check.word(x, "raise"), 3);
        Check.same("turn", Check.word(x, "turn"), 3);
        Check.same("half of three", Check.word(x, "half"), 3);
        Check.same("wip", Check.word(x, "wip"), -1);
        Check.same("e does not go on", Check.word(x, "e"), -1);
        Check.same("wipes", Check.word(x, "wipes"), -1);
        Check.same("file", x.file(), 0);
        Check.same("raised and turned", Check.read(x, 0), new int[] {4, 0, 2});
        for (int k = 0; k < 5; k++) {
            x.type(k);
        }
        Check.word(x, "turn");
        x.type(9);
        Check.same("turn of six", Check.word(x, "turn"), 6);
        x.file();
        Check.same("turned twice but one", Check.read(x, 1), new int[] {9, 0, 1, 2, 3, 4});
        x.repeat(6, 101);
        x.type(8);
        Check.same("turn of 102", Check.word(x, "turn"), 102);
        Check.same("half of 102", Check.word(x, "half"), 100);
        Check.same("half of 100", Check.word(x, "half"), 100);
        x.file();
        Check.same("half keeps the beginning", x.at(2, 0), 8);
        x.repeat(6, 200);
        Check.same("half of 200", Check.word(x, "half"), 100);
        Check.same("wipe tells what it had", Check.word(x, "wipe"), 100);
        Check.same("wipe of nothing", Check.word(x, "wipe"), 0);
        Check.same("turn of nothing", Check.word(x, "turn"), 0);
        Check.same("raise of nothing", Check.word(x, "raise"), 0);
        Check.same("the empty buffer", x.type(1), 1);
    }

    private static void figures() {
        Patchferry x = new Patchferry();
        Check.fails("meanLength() without files", x, NoSuchElementException.class, x::meanLength);
        Check.put(x, 1, 2, 3);
        Check.put(x);
        Check.put(x, 7);
        Check.same("files()", x.files(), 3);
        Check.same("meanLength()", x.meanLength(), 4.0 / 3.0);
        Check.same("sumOf nothing", x.sumOf(1), 1);
        Check.same("sumOf(2)", x.sumOf(2), 257 + 7 + 1);
        Check.same("sumOf(0)", x.sumOf(0), ((257 + 2) * 257 + 3) * 257 % 1000003 + 4);
        Check.fails("sumOf(3)", x, INDEX, () -> x.sumOf(3));
        Check.fails("sumOf(-1)", x, INDEX, () -> x.sumOf(-1));
    }

    private static void sumsOfManyFiles() {
        Dice dice = new Dice(1);
        Patchferry x = new Patchferry();
        double all = 0;
        for (int file = 0; file < 24; file++) {
            int[] bytes = dice.mixed(200);
            all += bytes.length;
            Check.put(x, bytes);
            Check.same("read back", Check.read(x, file), bytes);
            Check.same("sumOf", x.sumOf(file), Plain.strong(bytes, 0, bytes.length, 1));
            Check.same("meanLength", x.meanLength(), all / (file + 1));
        }
    }
}
