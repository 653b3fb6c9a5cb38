import java.util.NoSuchElementException;

/** Each sentence of promises 39 to 46 and of "Programs", "Packing" that names a boundary: at it, below it, above it. */
public final class ProgramBoundsTest {
    private static final Class<IllegalArgumentException> ARGUMENT = IllegalArgumentException.class;
    private static final Class<IllegalStateException> STATE = IllegalStateException.class;
    private static final Class<IndexOutOfBoundsException> INDEX = IndexOutOfBoundsException.class;
    private static final Class<UnsupportedOperationException> UNSUPPORTED = UnsupportedOperationException.class;
    private static final Class<NoSuchElementException> NONE = NoSuchElementException.class;

    public static void main(String[] args) {
        aByteFrom200To203IsAJump();
        aJumpIsCut();
        aPlaceInItOrItsEnd();
        labelsEachOnceByRisingPlaces();
        noLabelsAndMany();
        labelledTo200And201();
        tooShortForItsTable();
        aJumpInItIsCut();
        aLabelThatIsNotThere();
        unlabelledFilesAreShorter();
        oneIsNone();
        theModeIs1To3();
        runsOfAsManyAsTheModeAndOneMore();
        each255();
        packedTo200And201();
        a255LacksOneOfBoth();
        theNumber0();
        unpackedTo200And201();
        theModeOfAFile();
        runsOf255And256();
        insideIfBothHaveAMode();
        Check.end("ProgramBoundsTest");
    }

    private static void program(int labels, int[] text, int... due) {
        Patchferry x = new Patchferry();
        Check.put(x, text);
        Check.same("labels()", x.labels(0), labels);
        Check.same("label()", x.label(0), 1);
        Check.same("labelled", Check.read(x, 1), due);
        Check.same("unlabel()", x.unlabel(1), 2);
        Check.same("it comes back", Check.read(x, 2), text);
        Check.isTrue("isSound()", x.isSound());
    }

    private static void noProgram(int... text) {
        Patchferry x = new Patchferry();
        Check.put(x, text);
        Check.put(x);
        String what = java.util.Arrays.toString(text);
        Check.fails("labels() of " + what, x, NONE, () -> x.labels(0));
        Check.fails("label() of " + what, x, UNSUPPORTED, () -> x.label(0));
        Check.fails("labelledBytes() of " + what, x, NONE, () -> x.labelledBytes(0, 1));
        Check.fails("labelledBytes() to " + what, x, NONE, () -> x.labelledBytes(1, 0));
        Check.isTrue("isSound()", x.isSound());
    }

    private static void aByteFrom200To203IsAJump() {
        program(0, new int[] {199, 0, 1}, 0, 199, 0, 1);
        program(1, new int[] {200, 0, 1}, 1, 1, 200, 0, 0);
        program(1, new int[] {201, 0, 1}, 1, 1, 201, 0, 0);
        program(1, new int[] {202, 0, 1}, 1, 1, 202, 0, 0);
        program(1, new int[] {203, 0, 1}, 1, 1, 203, 0, 0);
        program(0, new int[] {204, 0, 1}, 0, 204, 0, 1);
        program(0, new int[] {199, 204}, 0, 199, 204);
    }

    private static void aJumpIsCut() {
        noProgram(200);
        noProgram(203, 0);
        program(1, new int[] {200, 0, 0}, 1, 0, 200, 0, 0);
        noProgram(5, 201);
        noProgram(5, 202, 0);
        program(1, new int[] {5, 200, 0, 0}, 1, 0, 5, 200, 0, 0);
        noProgram(200, 0, 0, 200);
        noProgram(200, 0, 0, 200, 0);
        program(1, new int[] {200, 0, 0, 200, 0, 0}, 1, 0, 200, 0, 0, 200, 0, 0);
    }

    private static void aPlaceInItOrItsEnd() {
        program(1, new int[] {200, 0, 2}, 1, 2, 200, 0, 0);
        program(1, new int[] {200, 0, 3}, 1, 3, 200, 0, 0);
        noProgram(200, 0, 4);
        noProgram(200, 0, 255);
        noProgram(200, 1, 0);
        noProgram(200, 255, 255);
        noProgram(200, 200, 0);
        program(1, new int[] {200, 0, 1, 9}, 1, 1, 200, 0, 0, 9);
        int[] most = Check.join(new int[] {200, 0, 199}, Check.row(1, 197));
        for (int place = 199; place <= 202; place++) {
            most[2] = place;
            Patchferry x = new Patchferry();
            Check.put(x, most);
            if (place <= 200) {
                Check.same("a label at " + place + " of 200", x.labels(0), 1);
                Check.same("labelledBytes() of it", x.labelledBytes(0, 0), 12);
            } else {
                Check.fails("a label at " + place + " of 200", x, NONE, () -> x.labels(0));
            }
        }
        most[1] = 1;
        most[2] = 0;
        noProgram(most);
    }

    private static void labelsEachOnceByRisingPlaces() {
        program(2, new int[] {200, 0, 5, 200, 0, 2}, 2, 2, 5, 200, 0, 1, 200, 0, 0);
        program(1, new int[] {200, 0, 5, 200, 0, 5}, 1, 5, 200, 0, 0, 200, 0, 0);
        program(2, new int[] {200, 0, 5, 200, 0, 6}, 2, 5, 6, 200, 0, 0, 200, 0, 1);
        program(3, new int[] {203, 0, 9, 202, 0, 0, 201, 0, 4}, 3, 0, 4, 9, 203, 0, 2, 202, 0, 0, 201, 0, 1);
    }

    private static void noLabelsAndMany() {
        program(0, new int[] {}, 0);
        program(0, new int[] {1}, 0, 1);
        int[] jumps = new int[198];
        for (int k = 0; k < 198; k += 3) {
            jumps[k] = 200 + k % 4;
            jumps[k + 2] = 198 - k;
        }
        Patchferry x = new Patchferry();
        Check.put(x, jumps);
        Check.same("66 labels", x.labels(0), 66);
        Check.fails("they make 265 bytes", x, STATE, () -> x.label(0));
        // 265 like bytes are one copy, whose length takes two bytes.
        Check.same("labelledBytes() of them", x.labelledBytes(0, 0), 12);
        Check.isTrue("isSound()", x.isSound());
    }

    private static void labelledTo200And201() {
        int[][] heads = {{}, {200, 0, 0}, {200, 0, 0, 200, 0, 9}};
        for (int labels = 0; labels < 3; labels++) {
            for (int due = 199; due <= 201; due++) {
                Patchferry x = new Patchferry();
                Check.put(x, Check.join(heads[labels], Check.row(1, due - 1 - labels - heads[labels].length)));
                if (due > 200) {
                    Check.fails("label() to 201", x, STATE, () -> x.label(0));
                    continue;
                }
                Check.same("label()", x.label(0), 1);
                Check.same("its length", x.length(1), due);
            }
        }
    }

    private static void unlabelled(int[] labelled, int... due) {
        Patchferry x = new Patchferry();
        Check.put(x, labelled);
        Check.same("unlabel()", x.unlabel(0), 1);
        Check.same("unlabelled", Check.read(x, 1), due);
    }

    private static void notLabelled(int... text) {
        Patchferry x = new Patchferry();
        Check.put(x, text);
        Check.fails("unlabel() of " + java.util.Arrays.toString(text), x, UNSUPPORTED, () -> x.unlabel(0));
    }

    private static void tooShortForItsTable() {
        notLabelled();
        unlabelled(new int[] {0});
        notLabelled(1);
        unlabelled(new int[] {1, 7});
        notLabelled(2, 7);
        unlabelled(new int[] {2, 7, 8});
        unlabelled(new int[] {2, 7, 8, 9}, 9);
        notLabelled(3, 7, 8);
        unlabelled(Check.join(new int[] {199}, Check.row(200, 199)));
        notLabelled(Check.join(new int[] {200}, Check.row(1, 199)));
        notLabelled(Check.join(new int[] {255}, Check.row(1, 199)));
    }

    private static void aJumpInItIsCut() {
        notLabelled(1, 7, 200);
        notLabelled(1, 7, 203, 0);
        unlabelled(new int[] {1, 7, 200, 0, 0}, 200, 0, 7);
        notLabelled(1, 7, 200, 0, 0, 201);
        notLabelled(1, 7, 200, 0, 0, 201, 0);
        unlabelled(new int[] {1, 7, 200, 0, 0, 203, 0, 0}, 200, 0, 7, 203, 0, 7);
        unlabelled(new int[] {1, 7, 199}, 199);
        unlabelled(new int[] {1, 7, 204, 0}, 204, 0);
        unlabelled(new int[] {1, 200, 9}, 9);
    }

    private static void aLabelThatIsNotThere() {
        notLabelled(0, 200, 0, 0);
        unlabelled(new int[] {1, 7, 200, 0, 0}, 200, 0, 7);
        notLabelled(1, 7, 200, 0, 1);
        unlabelled(new int[] {2, 7, 8, 200, 0, 1}, 200, 0, 8);
        notLabelled(2, 7, 8, 200, 0, 2);
        notLabelled(2, 7, 8, 200, 0, 255);
        notLabelled(2, 7, 8, 200, 1, 0);
        notLabelled(2, 7, 8, 200, 1, 1);
    }

    private static void unlabelledFilesAreShorter() {
        Patchferry x = new Patchferry();
        Check.put(x, Check.join(new int[] {0}, Check.row(1, 199)));
        Check.same("unlabel() of 200 bytes", x.unlabel(0), 1);
        Check.same("its length", x.length(1), 199);
        while (x.files() < 23) {
            x.file();
        }
        Check.same("unlabel() as the 24th", x.unlabel(0), 23);
        Check.fails("unlabel() as the 25th", x, STATE, () -> x.unlabel(0));
    }

    private static void oneIsNone() {
        Patchferry x = new Patchferry();
        Check.put(x, 200, 0, 0);
        Check.put(x, 200, 0, 4);
        Check.put(x);
        // 1 0 200 0 0 is one copy of five bytes; of nothing the table alone stands, a 0.
        Check.same("both are", x.labelledBytes(0, 0), 11);
        Check.same("from a program without bytes", x.labelledBytes(2, 0), 8 + 2 + 5);
        Check.same("to a program without bytes", x.labelledBytes(0, 2), 11);
        Check.same("from nothing to nothing", x.labelledBytes(2, 2), 11);
        Check.fails("the old one is none", x, NONE, () -> x.labelledBytes(1, 0));
        Check.fails("the new one is none", x, NONE, () -> x.labelledBytes(0, 1));
        Check.fails("both are none", x, NONE, () -> x.labelledBytes(1, 1));
        Check.fails("one is none, one is no file", x, INDEX, () -> x.labelledBytes(1, 3));
        Check.fails("one is no file, one is none", x, INDEX, () -> x.labelledBytes(3, 1));
    }

    private static void packed(int mode, int[] text, int... due) {
        Patchferry x = new Patchferry();
        Check.put(x, text);
        Check.same("pack()", x.pack(0, mode), 1);
        Check.same("packed by " + mode, Check.read(x, 1), due);
        Check.same("unpack()", x.unpack(1), 2);
        Check.same("it comes back", Check.read(x, 2), text);
        Check.isTrue("its mode is " + mode + " or less", x.modeOf(1) > 0 && x.modeOf(1) <= mode);
    }

    private static void theModeIs1To3() {
        Patchferry x = new Patchferry();
        Check.put(x, 1);
        for (int mode : new int[] {0, 4, -1, 5, Integer.MIN_VALUE, Integer.MAX_VALUE}) {
            Check.fails("pack(0, " + mode + ")", x, ARGUMENT, () -> x.pack(0, mode));
            Check.fails("pack(1, " + mode + ")", x, INDEX, () -> x.pack(1, mode));
        }
        for (int mode = 1; mode <= 3; mode++) {
            packed(mode, new int[] {});
            packed(mode, new int[] {0}, 0);
        }
    }

    private static void runsOfAsManyAsTheModeAndOneMore() {
        packed(1, new int[] {7}, 7);
        packed(1, new int[] {7, 7}, 255, 2, 7);
        packed(2, new int[] {7, 7}, 7, 7);
        packed(2, new int[] {7, 7, 7}, 255, 3, 7);
        packed(3, new int[] {7, 7, 7}, 7, 7, 7);
        packed(3, new int[] {7, 7, 7, 7}, 255, 4, 7);
        packed(3, new int[] {7, 7, 8, 7, 7, 7, 8}, 7, 7, 8, 7, 7, 7, 8);
        packed(2, new int[] {7, 8, 8, 9, 9, 9}, 7, 8, 8, 255, 3, 9);
        packed(1, new int[] {254, 254, 0, 0}, 255, 2, 254, 255, 2, 0);
        packed(1, Check.row(7, 199), 255, 199, 7);
        packed(3, Check.row(7, 200), 255, 200, 7);
    }

    private static void each255() {
        for (int mode = 1; mode <= 3; mode++) {
            packed(mode, new int[] {255}, 255, 1, 255);
            packed(mode, new int[] {255, 255}, 255, 2, 255);
            packed(mode, new int[] {7, 255, 8}, 7, 255, 1, 255, 8);
            packed(mode, new int[] {255, 254, 255}, 255, 1, 255, 254, 255, 1, 255);
            packed(mode, Check.row(255, 200), 255, 200, 255);
        }
    }

    private static void packedTo200And201() {
        int[] pairs = new int[100];
        for (int k = 0; k < 100; k += 2) {
            pairs[k] = 255;
        }
        for (int mode = 1; mode <= 3; mode++) {
            int asked = mode;
            Patchferry x = new Patchferry();
            Check.put(x, Check.join(java.util.Arrays.copyOf(pairs, 98), new int[] {1, 2, 3}));
            Check.put(x, pairs);
            Check.put(x, Check.join(pairs, new int[] {1}));
            Check.put(x, Check.join(pairs, pairs));
            Check.same("pack to 199", x.length(x.pack(0, mode)), 199);
            Check.same("pack to 200", x.length(x.pack(1, mode)), 200);
            Check.fails("pack to 201", x, STATE, () -> x.pack(2, asked));
            Check.fails("pack to 400", x, STATE, () -> x.pack(3, asked));
            Check.isTrue("isSound()", x.isSound());
        }
    }

    private static void notPacked(int... text) {
        Patchferry x = new Patchferry();
        Check.put(x, text);
        Check.put(x, 1);
        String what = java.util.Arrays.toString(text);
        Check.fails("unpack() of " + what, x, UNSUPPORTED, () -> x.unpack(0));
        Check.same("modeOf() of " + what, x.modeOf(0), 0);
        Check.same("insideBytes() to " + what, x.insideBytes(1, 0), x.bytes(x.make(1, 0)));
        Check.same("insideBytes() from " + what, x.insideBytes(0, 1), x.bytes(x.make(0, 1)));
    }

    private static void unpacked(int[] text, int... due) {
        Patchferry x = new Patchferry();
        Check.put(x, text);
        Check.same("unpack()", x.unpack(0), 1);
        Check.same("unpacked", Check.read(x, 1), due);
    }

    private static void a255LacksOneOfBoth() {
        notPacked(255);
        notPacked(255, 3);
        unpacked(new int[] {255, 3, 9}, 9, 9, 9);
        notPacked(9, 255);
        notPacked(9, 255, 3);
        unpacked(new int[] {9, 255, 2, 9}, 9, 9, 9);
        notPacked(255, 3, 9, 255);
        notPacked(255, 3, 9, 255, 1);
        unpacked(new int[] {255, 1, 9, 255, 1, 255}, 9, 255);
        notPacked(255, 255);
        notPacked(255, 1, 255, 255);
        unpacked(new int[] {254, 9}, 254, 9);
        unpacked(new int[] {});
    }

    private static void theNumber0() {
        notPacked(255, 0, 9);
        unpacked(new int[] {255, 1, 9}, 9);
        notPacked(1, 255, 2, 9, 255, 0, 9, 1);
        notPacked(255, 0, 255);
        unpacked(new int[] {255, 1, 0, 0}, 0, 0);
    }

    private static void unpackedTo200And201() {
        unpacked(new int[] {255, 199, 7}, Check.row(7, 199));
        unpacked(new int[] {255, 200, 7}, Check.row(7, 200));
        unpacked(new int[] {255, 199, 7, 8}, Check.join(Check.row(7, 199), new int[] {8}));
        int[][] tooLong = {{255, 201, 7}, {255, 255, 7}, {255, 200, 7, 8}, {255, 100, 7, 255, 101, 8},
            {255, 255, 255}, Check.join(Check.row(1, 197), new int[] {255, 4, 7})};
        for (int[] text : tooLong) {
            Patchferry x = new Patchferry();
            Check.put(x, text);
            Check.fails("unpack() of " + java.util.Arrays.toString(text), x, STATE, () -> x.unpack(0));
        }
        unpacked(Check.join(Check.row(1, 197), new int[] {255, 3, 7}), Check.join(Check.row(1, 197), Check.row(7, 3)));
        int[] most = new int[200];
        java.util.Arrays.fill(most, 255);
        most[198] = 1;
        most[199] = 1;
        Patchferry x = new Patchferry();
        Check.put(x, most);
        Check.fails("unpack() to 16832", x, STATE, () -> x.unpack(0));
    }

    private static void mode(int due, int... text) {
        Patchferry x = new Patchferry();
        Check.put(x, text);
        Check.same("modeOf() of " + java.util.Arrays.toString(text), x.modeOf(0), due);
    }

    private static void theModeOfAFile() {
        mode(1);
        mode(1, 7);
        mode(2, 7, 7);
        mode(3, 7, 7, 7);
        mode(0, 7, 7, 7, 7);
        mode(0, 255, 1, 7);
        mode(1, 255, 2, 7);
        mode(0, 255, 2, 7, 8, 8);
        mode(2, 255, 3, 7, 8, 8);
        mode(0, 255, 3, 7, 8, 8, 8);
        mode(3, 255, 4, 7, 8, 8, 8);
        mode(0, 255, 4, 7, 8, 8, 8, 8);
        mode(1, 255, 1, 255);
        mode(0, 255, 1, 255, 255, 1, 255);
        mode(1, 255, 2, 255);
        mode(0, 255, 2, 7, 7);
    }

    /** What is left over behind 255 like bytes is judged by itself. */
    private static void runsOf255And256() {
        mode(1, 255, 254, 7);
        mode(1, 255, 255, 7);
        mode(0, 255, 254, 7, 7);
        mode(1, 255, 255, 7, 7);
        mode(0, 255, 255, 7, 255, 1, 7);
        mode(2, 255, 255, 7, 7, 7);
        mode(1, 255, 255, 7, 255, 2, 7);
        mode(3, 255, 255, 7, 7, 7, 7);
        mode(0, 255, 255, 7, 7, 7, 7, 7);
        mode(1, 255, 255, 7, 255, 4, 7);
        mode(0, 255, 254, 7, 255, 2, 7);
        mode(1, 255, 255, 7, 255, 255, 7);
        mode(1, 255, 255, 7, 255, 255, 7, 7);
        mode(1, 255, 255, 255);
        mode(1, 255, 255, 255, 255, 1, 255);
        mode(0, 255, 254, 255, 255, 2, 255);
    }

    private static void inside(int due, int[] old, int... young) {
        Patchferry x = new Patchferry();
        Check.put(x, old);
        Check.put(x, young);
        Check.same("insideBytes()", x.insideBytes(0, 1), due);
    }

    private static void insideIfBothHaveAMode() {
        // Inside it is the same patch as outside, and 1 more.
        inside(13, new int[] {1, 2, 3}, 1, 2, 3);
        inside(11, new int[] {1, 2, 3, 4}, 1, 2, 3, 4);
        inside(8, new int[] {});
        inside(8, new int[] {1});
        inside(11, new int[] {}, 1);
        // Outside x3, which takes 13; inside c0+4, which takes 11, and 1 more.
        inside(12, new int[] {255, 9, 7}, 255, 4, 7);
        // Inside c0+4, too, but one of both has no mode.
        inside(13, new int[] {255, 1, 6, 255, 9, 7}, 255, 4, 7);
        inside(13, new int[] {255, 9, 7}, 255, 0, 7);
        // By the modes 1 and 3: inside all alike, 11 and 1 more; outside x2 c2+6, which takes 15.
        inside(12, Check.join(new int[] {255, 3, 7}, Check.rising(1, 5)), 7, 7, 7, 1, 2, 3, 4, 5);
        // Outside c0+4 x2, which takes 15; inside a copy of 509, which takes 12, and 1 more.
        inside(13, new int[] {255, 255, 1, 255, 255, 2}, 255, 255, 1, 255, 254, 2);
    }
}
