import java.util.NoSuchElementException;

/** Each sentence of promises 15 to 23, 69 and of "Patches", "Bytes of a patch", "Chains" that names a boundary. */
public final class PatchBoundsTest {
    private static final Class<IllegalStateException> STATE = IllegalStateException.class;
    private static final Class<IndexOutOfBoundsException> INDEX = IndexOutOfBoundsException.class;
    private static final Class<UnsupportedOperationException> UNSUPPORTED = UnsupportedOperationException.class;

    public static void main(String[] args) {
        aLongestMatchOf3And4();
        togetherWithTheSlackBehindIt();
        extraBytesAreOneOperation();
        emptyFiles();
        atMost20PatchesByMake();
        atMost20PatchesByCompose();
        atMost20PatchesByChain();
        operationsOfAPatch();
        signsOfItsText();
        numbersInItsText();
        manyChangedBytes();
        aLengthOf7And8Bits();
        aNumberOf14And15Bits();
        aJumpOf7And8Bits();
        aJumpBelow0();
        theJumpBehindExtraBytes();
        bytesToWhichANumberIsAdded();
        theFileIsNotItsBase();
        piecesOfOneOperation();
        allThatIsAdded();
        theBaseIsWhatTheFirstOneMakes();
        itMakesNothing();
        Check.end("PatchBoundsTest");
    }

    /** The text of the patch, and what it makes must be the new file. */
    private static void patch(String due, int bytes, int[] old, int... young) {
        Patchferry x = new Patchferry();
        Check.put(x, old);
        Check.put(x, young);
        x.make(0, 1);
        Check.same("text", Check.text(x, 0), due);
        Check.same("bytes of " + due, x.bytes(0), bytes);
        x.apply(0, 0);
        Check.isTrue("what " + due + " makes", x.isSame(1, 2));
        x.version(0);
        x.version(1);
        Check.same("fetched by " + due, x.fetch(1), old.length + bytes);
    }

    private static void aLongestMatchOf3And4() {
        int[] old = Check.rising(0, 20);
        patch("x1", 11, old, 5);
        patch("x3", 13, old, 5, 6, 7);
        patch("c5+4", 11, old, 5, 6, 7, 8);
        patch("c5+5", 11, old, 5, 6, 7, 8, 9);
        patch("x5", 15, old, 99, 5, 6, 7, 99);
        patch("x1 c5+4 x1", 17, old, 99, 5, 6, 7, 8, 99);
        patch("x3", 13, old, 17, 18, 19);
        patch("c16+4", 11, old, 16, 17, 18, 19);
        patch("x4", 14, old, 17, 18, 19, 20);
        patch("x3", 13, Check.rising(0, 3), Check.rising(0, 3));
        patch("c0+4", 11, Check.rising(0, 4), Check.rising(0, 4));
        aLongestMatchInRuns();
    }

    private static void aLongestMatchInRuns() {
        int[] old = {7, 7, 7, 8, 8, 8, 8};
        patch("c0+7", 11, old, 7, 7, 7, 8, 8, 8, 8);
        patch("x1 c0+7", 14, old, 7, 7, 7, 7, 8, 8, 8, 8);
        patch("x2 c0+7", 15, old, 7, 7, 7, 7, 7, 8, 8, 8, 8);
        patch("c1+6", 11, old, 7, 7, 8, 8, 8, 8);
        patch("x3", 13, old, 8, 8, 8);
        patch("c3+4", 11, old, 8, 8, 8, 8);
        patch("c3+4 x1", 14, old, 8, 8, 8, 8, 8);
        patch("c3+4 c3+4", 14, old, 8, 8, 8, 8, 8, 8, 8, 8);
        patch("x4", 14, old, 9, 9, 9, 9);
        patch("x4", 14, old, 7, 7, 7, 7);
        patch("x4 c0+4", 17, old, 9, 9, 9, 9, 7, 7, 7, 8);
        patch("x8", 18, new int[] {7, 7, 7}, Check.row(7, 8));
    }

    private static void togetherWithTheSlackBehindIt() {
        int[] old = Check.rising(0, 20);
        patch("c2+4 x1", 14, old, 2, 3, 4, 5, 99);
        patch("c2+4 x2", 15, old, 2, 3, 4, 5, 99, 7);
        patch("c2+7!1", 13, old, 2, 3, 4, 5, 99, 7, 8);
        patch("c2+7!1 x1", 16, old, 2, 3, 4, 5, 99, 7, 8, 99);
        patch("c2+9!2", 15, old, 2, 3, 4, 5, 99, 99, 8, 9, 10);
        patch("c2+4 x4", 17, old, 2, 3, 4, 5, 99, 99, 8, 9);
        patch("c14+6", 11, old, 14, 15, 16, 17, 18, 19);
        patch("c14+6 x1", 14, old, 14, 15, 16, 17, 18, 19, 20);
    }

    private static void extraBytesAreOneOperation() {
        int[] old = Check.rising(0, 20);
        patch("x2 c0+4 x3 c10+4", 8 + 4 + 3 + 5 + 3, old, 99, 98, 0, 1, 2, 3, 97, 96, 95, 10, 11, 12, 13);
        patch("x6", 16, old, 1, 2, 3, 1, 2, 3);
        patch("c0+4 c10+4", 8 + 3 + 3, old, 0, 1, 2, 3, 10, 11, 12, 13);
        patch("x200", 8 + 3 + 200, old, Check.row(99, 200));
    }

    private static void emptyFiles() {
        patch("", 8, new int[0]);
        patch("", 8, Check.rising(0, 20));
        patch("x1", 11, new int[0], 0);
        patch("x200", 211, new int[0], Check.rising(0, 200));
        patch("c0+200", 12, Check.rising(0, 200), Check.rising(0, 200));
    }

    private static Patchferry withPatches(int many) {
        Patchferry x = new Patchferry();
        x.version(Check.put(x, 1, 2, 3));
        x.version(Check.put(x, 4, 5));
        for (int k = 0; k < many; k++) {
            Check.same("make", x.make(k % 2, 1 - k % 2), k);
        }
        return x;
    }

    private static void atMost20PatchesByMake() {
        Patchferry x = withPatches(18);
        Check.same("the 19th", x.make(0, 1), 18);
        Check.same("the 20th", x.make(1, 0), 19);
        Check.same("its operations", x.operations(19), 1);
        Check.fails("the 21st", x, STATE, () -> x.make(0, 1));
        Check.fails("the 21st, of the same file", x, STATE, () -> x.make(0, 0));
        Check.fails("operations(20)", x, INDEX, () -> x.operations(20));
    }

    private static void atMost20PatchesByCompose() {
        Patchferry x = withPatches(18);
        Check.same("the 19th", x.compose(0, 1), 18);
        Check.same("the 20th", x.compose(1, 0), 19);
        Check.same("its operations", x.operations(19), 1);
        Check.fails("the 21st", x, STATE, () -> x.compose(0, 1));
        Check.fails("operations(20)", x, INDEX, () -> x.operations(20));
    }

    private static void atMost20PatchesByChain() {
        Patchferry x = withPatches(18);
        Check.same("the 19th", x.chain(0, 1), 18);
        Check.same("the 20th", x.chain(0, 1), 19);
        Check.same("its operations", x.operations(19), 1);
        Check.fails("the 21st", x, STATE, () -> x.chain(0, 1));
        Check.fails("operations(20)", x, INDEX, () -> x.operations(20));
    }

    private static void operationsOfAPatch() {
        Patchferry x = new Patchferry();
        Check.put(x, Check.rising(0, 20));
        Check.put(x, 99, 5, 6, 7, 8);
        Check.put(x);
        x.make(0, 1);
        x.make(0, 2);
        x.make(0, 0);
        Check.same("a copy from 0", x.kindOf(2, 0), 'c');
        Check.same("it copies from 0", x.fromOf(2, 0), 0);
        Check.same("it copies 20", x.lengthOf(2, 0), 20);
        Check.same("operations of two", x.operations(0), 2);
        Check.same("operations of none", x.operations(1), 0);
        Check.same("kindOf(0, 0)", x.kindOf(0, 0), 'x');
        Check.same("kindOf(0, 1)", x.kindOf(0, 1), 'c');
        Check.same("lengthOf(0, 0)", x.lengthOf(0, 0), 1);
        Check.same("lengthOf(0, 1)", x.lengthOf(0, 1), 4);
        Check.fails("fromOf(0, 0)", x, NoSuchElementException.class, () -> x.fromOf(0, 0));
        Check.same("fromOf(0, 1)", x.fromOf(0, 1), 5);
        int[][] wrong = {{0, 2}, {0, -1}, {1, 0}, {1, -1}, {0, Integer.MAX_VALUE}, {0, Integer.MIN_VALUE}};
        for (int[] one : wrong) {
            Check.fails("kindOf", x, INDEX, () -> x.kindOf(one[0], one[1]));
            Check.fails("fromOf", x, INDEX, () -> x.fromOf(one[0], one[1]));
            Check.fails("lengthOf", x, INDEX, () -> x.lengthOf(one[0], one[1]));
        }
    }

    private static void signsOfItsText() {
        Patchferry x = new Patchferry();
        Check.put(x, Check.rising(0, 20));
        Check.put(x, 99, 5, 6, 7, 8);
        Check.put(x);
        x.make(0, 1);
        x.make(0, 2);
        Check.same("signAt(0, 0)", x.signAt(0, 0), 'x');
        Check.same("signAt(0, 1)", x.signAt(0, 1), '1');
        Check.same("the blank between two", x.signAt(0, 2), ' ');
        Check.same("signAt(0, 5)", x.signAt(0, 5), '+');
        Check.same("signAt(0, 6), the last one", x.signAt(0, 6), '4');
        for (int index : new int[] {7, 8, -1, Integer.MAX_VALUE, Integer.MIN_VALUE}) {
            Check.fails("signAt(0, " + index + ")", x, INDEX, () -> x.signAt(0, index));
        }
        Check.fails("signAt(1, 0), an empty text", x, INDEX, () -> x.signAt(1, 0));
    }

    private static void numbersInItsText() {
        int[] old = Check.rising(0, 200);
        patch("c9+9", 11, old, Check.rising(9, 9));
        patch("c10+10", 11, old, Check.rising(10, 10));
        patch("c99+99", 12, old, Check.rising(99, 99));
        patch("c100+100", 12, old, Check.rising(100, 100));
        patch("c196+4", 12, old, Check.rising(196, 4));
        patch("x9", 19, old, Check.row(255, 9));
        patch("x10", 20, old, Check.row(255, 10));
        patch("x99", 109, old, Check.row(255, 99));
        patch("x100", 110, old, Check.row(255, 100));
        for (int many : new int[] {1, 9, 10}) {
            int[] young = Check.rising(0, 100);
            for (int k = 1; k <= many; k++) {
                young[8 * k] = 255;
            }
            patch("c0+100!" + many, 11 + 2 * many, old, young);
        }
    }

    /** Two patches with a changed byte of three each; one finds no more than 65 in 200 bytes. */
    private static void manyChangedBytes() {
        for (int many : new int[] {99, 100, 101}) {
            int[] first = Check.rising(0, 200);
            int[] second = first.clone();
            for (int k = 0; k < 60; k++) {
                second[4 + 3 * k]++;
            }
            int[] third = second.clone();
            for (int k = 0; k < many - 60; k++) {
                third[6 + 3 * k]++;
            }
            Patchferry x = new Patchferry();
            Check.put(x, first);
            Check.put(x, second);
            Check.put(x, third);
            x.make(0, 1);
            x.make(1, 2);
            x.compose(0, 1);
            Check.same("the first one", Check.text(x, 0), "c0+200!60");
            Check.same("both composed", Check.text(x, 2), "c0+200!" + many);
            Check.same("bytes of it", x.bytes(2), 12 + 2 * many);
        }
    }

    private static void aLengthOf7And8Bits() {
        int[] old = Check.rising(0, 200);
        patch("x126", 8 + 2 + 126, old, Check.row(255, 126));
        patch("x127", 8 + 2 + 127, old, Check.row(255, 127));
        patch("x128", 8 + 3 + 128, old, Check.row(255, 128));
        patch("c0+127", 8 + 3, old, Check.rising(0, 127));
        patch("c0+128", 8 + 4, old, Check.rising(0, 128));
        patch("c0+129", 8 + 4, old, Check.rising(0, 129));
    }

    /** Lengths of unpacked files; outside it would be c0+193 x2, which takes 16. */
    private static void aNumberOf14And15Bits() {
        int[] old = new int[195];
        for (int k = 0; k < 195; k += 3) {
            old[k] = 255;
            old[k + 1] = 255;
            old[k + 2] = k % 2;
        }
        int[] lengths = {63, 64, 65};
        int[] due = {1 + 8 + 1 + 2 + 1, 1 + 8 + 1 + 3 + 1, 1 + 8 + 1 + 3 + 1};
        for (int k = 0; k < 3; k++) {
            int[] young = old.clone();
            young[193] = lengths[k];
            Patchferry x = new Patchferry();
            Check.put(x, old);
            Check.put(x, young);
            Check.same("a copy of " + (64 * 255 + lengths[k]), x.insideBytes(0, 1), due[k]);
        }
    }

    private static void aJumpOf7And8Bits() {
        int[] old = Check.rising(0, 200);
        patch("c0+9", 11, old, Check.rising(0, 9));
        patch("c63+9", 11, old, Check.rising(63, 9));
        patch("c64+9", 12, old, Check.rising(64, 9));
        patch("c65+9", 12, old, Check.rising(65, 9));
        patch("c10+9 c20+9", 14, old, Check.join(Check.rising(10, 9), Check.rising(20, 9)));
        patch("c10+9 c82+9", 14, old, Check.join(Check.rising(10, 9), Check.rising(82, 9)));
        patch("c10+9 c83+9", 15, old, Check.join(Check.rising(10, 9), Check.rising(83, 9)));
    }

    private static void aJumpBelow0() {
        int[] old = Check.rising(0, 200);
        patch("c10+9 c18+9", 14, old, Check.join(Check.rising(10, 9), Check.rising(18, 9)));
        patch("c10+9 c10+9", 14, old, Check.join(Check.rising(10, 9), Check.rising(10, 9)));
        patch("c55+9 c0+9", 14, old, Check.join(Check.rising(55, 9), Check.rising(0, 9)));
        patch("c56+9 c0+9", 15, old, Check.join(Check.rising(56, 9), Check.rising(0, 9)));
        patch("c57+9 c0+9", 15, old, Check.join(Check.rising(57, 9), Check.rising(0, 9)));
    }

    /** A jump of 0, and one that is not moved by extra bytes in between. */
    private static void theJumpBehindExtraBytes() {
        int[] old = Check.rising(0, 200);
        patch("c0+9 x1 c9+9", 8 + 3 + 3 + 3, old, Check.join(Check.rising(0, 9), new int[] {255}, Check.rising(9, 9)));
        patch("c0+9 x1 c72+9", 8 + 3 + 3 + 3, old, Check.join(Check.rising(0, 9), new int[] {255}, Check.rising(72, 9)));
        patch("c0+9 x1 c73+9", 8 + 3 + 3 + 4, old, Check.join(Check.rising(0, 9), new int[] {255}, Check.rising(73, 9)));
        patch("x1 c63+9", 8 + 3 + 3, old, Check.join(new int[] {255}, Check.rising(63, 9)));
        patch("x1 c64+9", 8 + 3 + 4, old, Check.join(new int[] {255}, Check.rising(64, 9)));
    }

    private static void bytesToWhichANumberIsAdded() {
        int[] old = Check.rising(0, 30);
        int[] young = old.clone();
        patch("c0+30", 11, old, young);
        young[10] = 11;
        patch("c0+30!1", 13, old, young);
        young[20] = 19;
        patch("c0+30!2", 15, old, young);
        old[15] = 255;
        young[15] = 0;
        patch("c0+30!3", 17, old, young);
        old[25] = 0;
        young[25] = 255;
        patch("c0+30!4", 19, old, young);
    }

    private static void theFileIsNotItsBase() {
        Patchferry x = new Patchferry();
        int[] base = Check.rising(0, 20);
        int[] last = base.clone();
        last[19] = 99;
        Check.put(x, base);
        Check.put(x, Check.rising(5, 9));
        Check.put(x, base);
        Check.put(x, last);
        Check.put(x, Check.rising(0, 19));
        Check.put(x, Check.rising(0, 21));
        Check.put(x);
        x.make(0, 1);
        x.make(6, 0);
        Check.same("apply to its file", x.apply(0, 0), 7);
        Check.same("apply to another file with the same bytes", x.apply(0, 2), 8);
        Check.same("apply to an empty base", x.apply(1, 6), 9);
        for (int file : new int[] {1, 3, 4, 5, 6}) {
            Check.fails("apply(0, " + file + ")", x, UNSUPPORTED, () -> x.apply(0, file));
        }
        Check.fails("apply(1, 0)", x, UNSUPPORTED, () -> x.apply(1, 0));
        Check.isTrue("what is made", x.isSame(7, 1) && x.isSame(8, 1) && x.isSame(9, 0));
    }

    /** What the first patch makes: 10 to 19, three extra bytes, 20 to 29. */
    private static void composed(String due, int bytes, int from, int to) {
        int[] old = Check.rising(0, 40);
        int[] middle = Check.join(Check.rising(10, 10), new int[] {201, 202, 203}, Check.rising(20, 10));
        Patchferry x = new Patchferry();
        Check.put(x, old);
        Check.put(x, middle);
        Check.put(x, java.util.Arrays.copyOfRange(middle, from, to));
        x.make(0, 1);
        x.make(1, 2);
        Check.same("compose", x.compose(0, 1), 2);
        Check.same("composed from " + from + " to " + to, Check.text(x, 2), due);
        Check.same("bytes of " + due, x.bytes(2), bytes);
        Check.isTrue("what it makes", x.isSame(x.apply(2, 0), 2));
    }

    private static void piecesOfOneOperation() {
        composed("c10+9", 11, 0, 9);
        composed("c10+10", 11, 0, 10);
        composed("c10+10 x1", 14, 0, 11);
        composed("c10+10 x3", 16, 0, 13);
        composed("c10+10 x3 c20+1", 19, 0, 14);
        composed("c10+10 x3 c20+10", 19, 0, 23);
        composed("c19+1 x3 c20+1", 19, 9, 14);
        composed("c19+1 x3", 16, 9, 13);
        composed("x3 c20+1", 16, 10, 14);
        composed("x3", 13, 10, 13);
        composed("c20+10", 11, 13, 23);
        composed("c21+9", 11, 14, 23);
        composed("", 8, 5, 5);
        stayingOperations();
    }

    private static void stayingOperations() {
        Patchferry x = new Patchferry();
        Check.put(x, Check.rising(0, 16));
        Check.put(x, Check.join(Check.rising(0, 8), new int[] {99}, Check.rising(8, 8)));
        Check.put(x, Check.rising(0, 16));
        x.make(0, 1);
        x.make(1, 2);
        x.compose(0, 1);
        Check.same("a copy just behind another one stays its own", Check.text(x, 2), "c0+8 c8+8");
        Check.same("its jump is 0", x.bytes(2), 8 + 3 + 3);
        Patchferry y = new Patchferry();
        Check.put(y);
        Check.put(y, 1, 2, 3, 4);
        Check.put(y, 9, 1, 2, 3, 4, 9);
        y.make(0, 1);
        y.make(1, 2);
        y.compose(0, 1);
        Check.same("extra bytes ahead, of the first one, and behind", Check.text(y, 2), "x1 x4 x1");
    }

    private static void allThatIsAdded() {
        int[] first = Check.rising(0, 30);
        int[] second = first.clone();
        second[10] = 210;
        second[20] = 120;
        int[] third = second.clone();
        third[10] = 10;
        third[20] = 119;
        Patchferry x = new Patchferry();
        Check.put(x, first);
        Check.put(x, second);
        Check.put(x, third);
        x.make(0, 1);
        x.make(1, 2);
        x.compose(0, 1);
        Check.same("both", Check.text(x, 0) + ", " + Check.text(x, 1), "c0+30!2, c0+30!2");
        // 200 and 56 are 256, which is 0; 100 and 255 are 355, which is 99.
        Check.same("what comes to 0 is not changed", Check.text(x, 2), "c0+30!1");
        Check.same("bytes of it", x.bytes(2), 13);
        Check.isTrue("what it makes", x.isSame(x.apply(2, 0), 2));
        Patchferry y = new Patchferry();
        Check.put(y);
        Check.put(y, first);
        Check.put(y, second);
        y.make(0, 1);
        y.make(1, 2);
        y.compose(0, 1);
        Check.same("extra bytes with what is added", Check.text(y, 2), "x30");
        Check.same("bytes of it", y.bytes(2), 8 + 2 + 30);
        Check.isTrue("what it makes", y.isSame(y.apply(2, 0), 2));
    }

    private static void theBaseIsWhatTheFirstOneMakes() {
        int[] middle = Check.rising(0, 20);
        int[] last = middle.clone();
        last[19] = 99;
        Patchferry x = new Patchferry();
        Check.put(x, 1, 2, 3);
        Check.put(x, middle);
        Check.put(x, middle);
        Check.put(x, last);
        Check.put(x, Check.rising(0, 19));
        Check.put(x);
        x.make(0, 1);
        for (int file = 2; file < 6; file++) {
            x.make(file, 0);
        }
        x.make(0, 5);
        Check.same("another file with the same bytes", x.compose(0, 1), 6);
        Check.fails("one byte is unlike", x, UNSUPPORTED, () -> x.compose(0, 2));
        Check.fails("one byte lacks", x, UNSUPPORTED, () -> x.compose(0, 3));
        Check.fails("an empty base", x, UNSUPPORTED, () -> x.compose(0, 4));
        Check.fails("with itself", x, UNSUPPORTED, () -> x.compose(0, 0));
        Check.fails("two of the same base", x, UNSUPPORTED, () -> x.compose(0, 5));
        Check.same("over nothing in between", x.compose(5, 4), 7);
        Check.same("its text", Check.text(x, 7), "x3");
    }

    private static void itMakesNothing() {
        Patchferry x = new Patchferry();
        Check.put(x);
        Check.put(x, 7);
        Check.put(x, Check.rising(0, 200));
        x.make(0, 1);
        x.make(1, 0);
        x.make(0, 0);
        x.make(2, 2);
        Check.same("share of one byte", x.share(0), 11f);
        Check.fails("share of nothing", x, NoSuchElementException.class, () -> x.share(1));
        Check.fails("share of nothing from nothing", x, NoSuchElementException.class, () -> x.share(2));
        Check.same("share of 200 bytes", x.share(3), 12f / 200f);
    }
}
