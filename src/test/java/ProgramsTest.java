import java.util.List;
import java.util.NoSuchElementException;

/** Promises 39 to 46. */
public final class ProgramsTest {
    private static final Class<IndexOutOfBoundsException> INDEX = IndexOutOfBoundsException.class;
    private static final Class<IllegalArgumentException> ARGUMENT = IllegalArgumentException.class;
    private static final Class<IllegalStateException> STATE = IllegalStateException.class;
    private static final Class<UnsupportedOperationException> UNSUPPORTED = UnsupportedOperationException.class;
    private static final Class<NoSuchElementException> NONE = NoSuchElementException.class;

    public static void main(String[] args) {
        promises39And40Label();
        promise41Unlabel();
        promise42LabelledBytes();
        promise43Pack();
        promise44Unpack();
        promise45ModeOf();
        promise46InsideBytes();
        manyPrograms();
        manyPacked();
        Check.end("ProgramsTest");
    }

    private static void full(Patchferry x) {
        while (x.files() < 24) {
            x.file();
        }
    }

    private static void promises39And40Label() {
        Patchferry x = new Patchferry();
        Check.put(x, 200, 0, 9, 203, 0, 0, 201, 0, 9);
        Check.same("labels(0)", x.labels(0), 2);
        Check.same("label(0)", x.label(0), 1);
        Check.same("labelled", Check.read(x, 1), new int[] {2, 0, 9, 200, 0, 1, 203, 0, 0, 201, 0, 1});
        Check.put(x, 199, 204, 5);
        Check.same("labels of no jumps", x.labels(2), 0);
        Check.same("label(2)", x.label(2), 3);
        Check.same("labelled without labels", Check.read(x, 3), new int[] {0, 199, 204, 5});
        Check.put(x);
        Check.same("labels of nothing", x.labels(4), 0);
        Check.same("label(4)", x.label(4), 5);
        Check.same("labelled nothing", Check.read(x, 5), new int[] {0});
        Check.put(x, 200, 0, 200, 0, 1);
        Check.fails("a place beyond", x, NONE, () -> x.labels(6));
        Check.fails("a place beyond", x, UNSUPPORTED, () -> x.label(6));
        Check.put(x, 1, 200, 0);
        Check.fails("a jump is cut", x, NONE, () -> x.labels(7));
        Check.fails("a jump is cut", x, UNSUPPORTED, () -> x.label(7));
        Check.put(x, 200, 1, 0);
        Check.fails("a place of 256", x, NONE, () -> x.labels(8));
        Check.put(x, 1, 200);
        Check.fails("a jump is cut behind one byte", x, NONE, () -> x.labels(9));
        Check.put(x, 200, 0, 3);
        Check.same("its end is a label", x.labels(10), 1);
        Check.put(x, 200, 0, 4);
        Check.fails("behind its end", x, NONE, () -> x.labels(11));
        Check.put(x, 200, 0, 1, 5);
        Check.same("into a jump", x.labels(12), 1);
        Check.fails("labels(13)", x, INDEX, () -> x.labels(13));
        Check.fails("label(-1)", x, INDEX, () -> x.label(-1));
        Check.put(x, Check.row(1, 199));
        Check.same("label to 200 bytes", x.length(x.label(13)), 200);
        Check.put(x, Check.row(1, 200));
        Check.fails("label to 201 bytes", x, STATE, () -> x.label(15));
        int[] jumps = new int[198];
        for (int k = 0; k < 198; k += 3) {
            jumps[k] = 202;
            jumps[k + 2] = k + 3;
        }
        Check.put(x, jumps);
        Check.same("66 labels", x.labels(16), 66);
        Check.fails("label to 265 bytes", x, STATE, () -> x.label(16));
        Check.put(x, Check.join(new int[] {200, 0, 200}, Check.row(1, 197)));
        Check.same("the end of 200 bytes is a label", x.labels(17), 1);
        // 1 200 200 0 0 1 .. to 1 200 200 0 0 1 ..: one copy of 202 bytes.
        Check.same("labelled, it has 202 bytes", x.labelledBytes(17, 17), 8 + 4);
        full(x);
        Check.fails("label with 24 files", x, STATE, () -> x.label(0));
        Check.fails("label of none with 24 files", x, UNSUPPORTED, () -> x.label(7));
    }

    private static void promise41Unlabel() {
        Patchferry x = new Patchferry();
        Check.put(x, 2, 0, 9, 200, 0, 1, 203, 0, 0, 201, 0, 1);
        Check.same("unlabel(0)", x.unlabel(0), 1);
        Check.same("the program", Check.read(x, 1), new int[] {200, 0, 9, 203, 0, 0, 201, 0, 9});
        Check.put(x);
        Check.fails("no table", x, UNSUPPORTED, () -> x.unlabel(2));
        Check.put(x, 3, 1, 2);
        Check.fails("a table cut", x, UNSUPPORTED, () -> x.unlabel(3));
        Check.put(x, 1, 0, 5, 200, 0);
        Check.fails("a jump cut", x, UNSUPPORTED, () -> x.unlabel(4));
        Check.put(x, 1, 0, 200, 0, 1);
        Check.fails("a label that is not there", x, UNSUPPORTED, () -> x.unlabel(5));
        Check.put(x, 1, 0, 200, 1, 0);
        Check.fails("a label of 256", x, UNSUPPORTED, () -> x.unlabel(6));
        Check.put(x, 2, 200, 201);
        Check.same("a table alone", x.length(x.unlabel(7)), 0);
        Check.put(x, 0, 5, 6);
        x.unlabel(9);
        Check.same("an empty table", Check.read(x, 10), new int[] {5, 6});
        Check.fails("unlabel(11)", x, INDEX, () -> x.unlabel(11));
        Check.fails("unlabel(-1)", x, INDEX, () -> x.unlabel(-1));
        full(x);
        Check.fails("unlabel with 24 files", x, STATE, () -> x.unlabel(0));
        Check.fails("unlabel of none with 24 files", x, UNSUPPORTED, () -> x.unlabel(3));
    }

    private static void promise42LabelledBytes() {
        Patchferry x = new Patchferry();
        Check.put(x, 200, 0, 9, 1, 2, 3, 4, 5, 6);
        Check.put(x, 200, 0, 10, 1, 2, 3, 4, 5, 6, 7);
        Check.put(x, 200);
        // 1 9 200 0 0 1 2 .. becomes 1 10 200 0 0 1 2 .. 7: x2 c2+9 x1.
        Check.same("labelledBytes(0, 1)", x.labelledBytes(0, 1), 8 + 4 + 3 + 3);
        Check.same("labelledBytes(0, 0)", x.labelledBytes(0, 0), 11);
        Check.fails("the old one is none", x, NONE, () -> x.labelledBytes(2, 0));
        Check.fails("the new one is none", x, NONE, () -> x.labelledBytes(0, 2));
        Check.fails("no file", x, INDEX, () -> x.labelledBytes(2, 3));
        Check.fails("no file", x, INDEX, () -> x.labelledBytes(-1, 2));
    }

    private static void promise43Pack() {
        Patchferry x = new Patchferry();
        Check.put(x, 1, 2, 2, 3, 3, 3, 4, 4, 4, 4, 255, 5, 255, 255);
        x.pack(0, 1);
        x.pack(0, 2);
        Check.same("pack(0, 3)", x.pack(0, 3), 3);
        int[] tail = {255, 4, 4, 255, 1, 255, 5, 255, 2, 255};
        Check.same("mode 1", Check.read(x, 1), Check.join(new int[] {1, 255, 2, 2, 255, 3, 3}, tail));
        Check.same("mode 2", Check.read(x, 2), Check.join(new int[] {1, 2, 2, 255, 3, 3}, tail));
        Check.same("mode 3", Check.read(x, 3), Check.join(new int[] {1, 2, 2, 3, 3, 3}, tail));
        Check.put(x);
        Check.same("pack of nothing", x.length(x.pack(4, 2)), 0);
        Check.put(x, Check.row(9, 200));
        x.pack(6, 1);
        Check.same("200 like bytes", Check.read(x, 7), new int[] {255, 200, 9});
        int[] many = new int[134];
        for (int k = 0; k < 132; k += 2) {
            many[k] = 255;
        }
        Check.put(x, java.util.Arrays.copyOf(many, 100));
        Check.same("pack to 200 bytes", x.length(x.pack(8, 3)), 200);
        Check.put(x, Check.join(java.util.Arrays.copyOf(many, 100), new int[] {7}));
        Check.fails("pack to 201 bytes", x, STATE, () -> x.pack(10, 3));
        Check.fails("pack by 0", x, ARGUMENT, () -> x.pack(10, 0));
        Check.fails("pack by 4", x, ARGUMENT, () -> x.pack(10, 4));
        Check.fails("pack of no file", x, INDEX, () -> x.pack(11, 4));
        Check.put(x, Check.row(255, 200));
        full(x);
        Check.fails("pack with 24 files", x, STATE, () -> x.pack(0, 1));
        Check.fails("pack by 4 with 24 files", x, ARGUMENT, () -> x.pack(0, 4));
    }

    private static void promise44Unpack() {
        Patchferry x = new Patchferry();
        Check.put(x, 1, 255, 3, 7, 255, 2, 255, 8);
        Check.same("unpack(0)", x.unpack(0), 1);
        Check.same("unpacked", Check.read(x, 1), new int[] {1, 7, 7, 7, 255, 255, 8});
        Check.put(x, 1, 255);
        Check.put(x, 255, 3);
        Check.put(x, 255, 0, 4);
        Check.put(x, 255, 1, 255, 255);
        for (int file = 2; file < 6; file++) {
            int asked = file;
            Check.fails("unpack(" + file + ")", x, UNSUPPORTED, () -> x.unpack(asked));
        }
        Check.put(x, 255, 200, 0);
        Check.same("unpack to 200 bytes", x.length(x.unpack(6)), 200);
        Check.put(x, 255, 200, 0, 0);
        Check.fails("unpack to 201 bytes", x, STATE, () -> x.unpack(8));
        int[] much = new int[198];
        for (int k = 0; k < 198; k += 3) {
            much[k] = 255;
            much[k + 1] = 255;
            much[k + 2] = k;
        }
        Check.put(x, much);
        Check.fails("unpack to 16830 bytes", x, STATE, () -> x.unpack(9));
        Check.put(x);
        Check.same("unpack of nothing", x.length(x.unpack(10)), 0);
        Check.fails("unpack(12)", x, INDEX, () -> x.unpack(12));
        Check.fails("unpack(-1)", x, INDEX, () -> x.unpack(-1));
        full(x);
        Check.fails("unpack with 24 files", x, STATE, () -> x.unpack(0));
        Check.fails("unpack of none with 24 files", x, UNSUPPORTED, () -> x.unpack(2));
    }

    private static void promise45ModeOf() {
        Patchferry x = new Patchferry();
        int[][] files = {{}, {1, 2}, {2, 2}, {2, 2, 2}, {2, 2, 2, 2}, {255, 2, 7}, {255, 3, 7}, {255, 4, 7},
            {255, 1, 7}, {255, 1, 255}, {255}, {255, 0, 1}, {3, 3, 255, 3, 7}, {3, 3, 255, 2, 7},
            {255, 255, 7, 255, 45, 7}, {255, 200, 7, 255, 100, 7}, {255, 255, 7, 7}, {255, 255, 7, 7, 7, 7},
            {255, 4, 1, 2, 2, 2}, {255, 255, 255, 255, 9, 255}};
        int[] due = {1, 1, 2, 3, 0, 1, 1, 1, 0, 1, 0, 0, 2, 0, 1, 0, 1, 3, 3, 1};
        for (int k = 0; k < files.length; k++) {
            Check.put(x, files[k]);
            Check.same("modeOf(" + k + ")", x.modeOf(k), due[k]);
        }
        Check.fails("modeOf(20)", x, INDEX, () -> x.modeOf(20));
        Check.fails("modeOf(-1)", x, INDEX, () -> x.modeOf(-1));
    }

    private static void promise46InsideBytes() {
        Patchferry x = new Patchferry();
        Check.put(x, 255, 255, 1, 255, 255, 2);
        Check.put(x, 255, 255, 1, 255, 254, 2);
        Check.put(x, 255, 9);
        Check.put(x, Check.rising(0, 20));
        // Outside c0+4 x2, which takes 15; inside c0+509: 8 + 1 + 2 + 1, and 1 more.
        Check.same("insideBytes(0, 1)", x.insideBytes(0, 1), 13);
        // Inside c0+509 x1, which takes 15, and 1 more.
        Check.same("insideBytes(1, 0)", x.insideBytes(1, 0), 15);
        Check.same("outside is less", x.insideBytes(3, 3), 11);
        Check.same("one has no mode", x.insideBytes(0, 2), 8 + 2 + 2);
        Check.same("the other has none", x.insideBytes(2, 0), 8 + 2 + 6);
        Check.fails("insideBytes(0, 4)", x, INDEX, () -> x.insideBytes(0, 4));
        Check.fails("insideBytes(-1, 0)", x, INDEX, () -> x.insideBytes(-1, 0));
    }

    private static void manyPrograms() {
        Dice dice = new Dice(9);
        int programs = 0;
        for (int round = 0; round < 600; round++) {
            Patchferry x = new Patchferry();
            int[] text = dice.below(2) == 0 ? dice.program(dice.below(150)) : dice.mixed(200);
            int[] other = dice.below(2) == 0 ? dice.program(dice.below(150)) : dice.altered(text);
            Check.put(x, text);
            Check.put(x, other);
            List<Integer> due = Plain.labels(text);
            if (due == null) {
                Check.fails("labels", x, NONE, () -> x.labels(0));
                Check.fails("label", x, UNSUPPORTED, () -> x.label(0));
                Check.fails("labelledBytes", x, NONE, () -> x.labelledBytes(0, 1));
                continue;
            }
            programs++;
            Check.same("labels", x.labels(0), due.size());
            int[] labelled = Plain.labelled(text);
            if (Plain.labels(other) != null) {
                Check.same("labelledBytes", x.labelledBytes(0, 1), Plain.patchBytes(labelled, Plain.labelled(other)));
            }
            if (labelled.length > 200) {
                Check.fails("label", x, STATE, () -> x.label(0));
                continue;
            }
            x.label(0);
            Check.same("labelled", Check.read(x, 2), labelled);
            x.unlabel(2);
            Check.same("comes back", Check.read(x, 3), text);
        }
        Check.isTrue("many programs: " + programs, programs > 200);
    }

    private static void manyPacked() {
        Dice dice = new Dice(10);
        for (int round = 0; round < 600; round++) {
            Patchferry x = new Patchferry();
            int[] text = dice.mixed(200);
            Check.put(x, text);
            Check.same("modeOf", x.modeOf(0), Plain.mode(text));
            int mode = 1 + dice.below(3);
            int[] packed = Plain.pack(text, mode);
            if (packed.length > 200) {
                Check.fails("pack", x, STATE, () -> x.pack(0, mode));
                continue;
            }
            x.pack(0, mode);
            Check.same("packed", Check.read(x, 1), packed);
            Check.same("modeOf", x.modeOf(1), Plain.mode(packed));
            x.unpack(1);
            Check.same("comes back", Check.read(x, 2), text);
            int[] young = Plain.pack(dice.altered(text), 1 + dice.below(3));
            if (young.length <= 200) {
                Check.put(x, young);
                Check.same("insideBytes", x.insideBytes(1, 3), Plain.inside(packed, young));
            }
        }
        longRuns(dice);
    }

    private static void longRuns(Dice dice) {
        for (int round = 0; round < 60; round++) {
            Patchferry x = new Patchferry();
            int[] old = longRun(dice);
            int[] young = old.clone();
            for (int k = 0; k < 4; k++) {
                int at = 3 * dice.below(young.length / 3);
                young[at + 1 + dice.below(2)] = 2 + dice.below(5);
            }
            Check.put(x, old);
            Check.put(x, young);
            Check.same("insideBytes of long runs", x.insideBytes(0, 1), Plain.inside(old, young));
        }
    }

    private static int[] longRun(Dice dice) {
        int[] bytes = new int[3 * (1 + dice.below(10))];
        for (int k = 0; k < bytes.length; k += 3) {
            bytes[k] = 255;
            bytes[k + 1] = dice.below(3) == 0 ? 255 : 4 + dice.below(60);
            bytes[k + 2] = dice.below(4);
        }
        return bytes;
    }
}
