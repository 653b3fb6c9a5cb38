import java.util.NoSuchElementException;

/** Each sentence of promises 26 to 34 and of "Pieces" that names a boundary: at it, below it, above it. */
public final class PieceBoundsTest {
    private static final Class<IllegalArgumentException> ARGUMENT = IllegalArgumentException.class;
    private static final Class<IndexOutOfBoundsException> INDEX = IndexOutOfBoundsException.class;
    private static final Class<UnsupportedOperationException> UNSUPPORTED = UnsupportedOperationException.class;
    private static final Class<NoSuchElementException> NONE = NoSuchElementException.class;
    private static final int[] FOUR = {0, 0, 0, 7};

    public static void main(String[] args) {
        aPieceOf3And4And5();
        aRollOf6And7And8();
        eachByteCountsTwice();
        aPieceOf31And32And33();
        atTheEndOfTheFile();
        theNumberOfAPiece();
        newAreThoseThatAreNotKept();
        theFileIsStored();
        droppingLeavesPieces();
        collectingWhatIsNotUsed();
        aLikenessOf0And100();
        eachOneTakenOnce();
        aLikenessIsCut();
        theFolderIs0To2();
        aLikenessOf49And50();
        lowerNumbersFirst();
        notInTheNewFolderOrNone();
        Check.end("PieceBoundsTest");
    }

    private static void pieces(int[] text, int... due) {
        Patchferry x = new Patchferry();
        Check.put(x, text);
        Check.same("pieces()", x.pieces(0), due.length);
        for (int k = 0; k < due.length && k < x.pieces(0); k++) {
            Check.same("pieceLength(0, " + k + ")", x.pieceLength(0, k), due[k]);
        }
        Check.fails("pieceLength(0, " + due.length + ")", x, INDEX, () -> x.pieceLength(0, due.length));
        Check.fails("pieceLength(0, -1)", x, INDEX, () -> x.pieceLength(0, -1));
    }

    /** The roll is 7 behind the third, the fourth, the fifth byte, and nowhere else. */
    private static void aPieceOf3And4And5() {
        pieces(new int[] {0, 0, 7, 0, 0, 0}, 6);
        pieces(new int[] {0, 0, 0, 7, 0, 0}, 4, 2);
        pieces(new int[] {0, 0, 0, 0, 7, 0}, 5, 1);
        pieces(new int[] {0, 0, 0, 7, 0, 0, 7}, 4, 3);
        pieces(new int[] {0, 0, 0, 7, 0, 0, 7, 0}, 4, 4);
        pieces(new int[] {0, 0, 0, 7, 0, 0, 0, 7}, 4, 4);
        pieces(new int[] {0, 0, 0, 7, 0, 0, 0, 0, 7}, 4, 5);
    }

    private static void aRollOf6And7And8() {
        pieces(new int[] {0, 0, 0, 6, 0}, 5);
        pieces(new int[] {0, 0, 0, 7, 0}, 4, 1);
        pieces(new int[] {0, 0, 0, 8, 0}, 5);
        pieces(new int[] {0, 0, 0, 15, 0}, 4, 1);
        pieces(new int[] {0, 0, 0, 16, 0}, 5);
        pieces(new int[] {0, 0, 0, 255, 0}, 4, 1);
        pieces(new int[] {0, 0, 0, 254, 0}, 5);
        pieces(new int[] {255, 255, 255, 255, 255}, 5);
    }

    /** The last one once, the one ahead of it twice, then four times and eight times, which is nothing modulo 8. */
    private static void eachByteCountsTwice() {
        pieces(new int[] {0, 0, 3, 1, 0}, 4, 1);
        pieces(new int[] {0, 0, 1, 3, 0}, 5);
        pieces(new int[] {0, 1, 1, 1, 0}, 4, 1);
        pieces(new int[] {0, 1, 0, 3, 0}, 4, 1);
        pieces(new int[] {1, 1, 1, 1, 0}, 4, 1);
        pieces(new int[] {7, 0, 0, 0, 0}, 5);
        pieces(new int[] {9, 0, 0, 7, 0}, 4, 1);
    }

    private static void aPieceOf31And32And33() {
        pieces(Check.row(0, 31), 31);
        pieces(Check.row(0, 32), 32);
        pieces(Check.row(0, 33), 32, 1);
        pieces(Check.row(0, 64), 32, 32);
        pieces(Check.row(0, 65), 32, 32, 1);
        pieces(Check.join(Check.row(0, 30), new int[] {7, 0, 0}), 31, 2);
        pieces(Check.join(Check.row(0, 31), new int[] {7, 0}), 32, 1);
        pieces(Check.join(Check.row(0, 32), new int[] {7, 0}), 32, 2);
    }

    private static void atTheEndOfTheFile() {
        pieces(new int[] {});
        pieces(new int[] {7}, 1);
        pieces(new int[] {0, 0, 7}, 3);
        pieces(FOUR, 4);
        pieces(Check.join(FOUR, FOUR), 4, 4);
        pieces(Check.row(0, 199), 32, 32, 32, 32, 32, 32, 7);
        pieces(Check.row(0, 200), 32, 32, 32, 32, 32, 32, 8);
        int[] fifty = new int[200];
        int[] due = new int[50];
        for (int k = 0; k < 50; k++) {
            fifty[4 * k + 3] = 7;
            due[k] = 4;
        }
        pieces(fifty, due);
    }

    private static void theNumberOfAPiece() {
        Patchferry x = new Patchferry();
        Check.put(x, 0, 0, 0, 7, 1, 2, 3, 4, 4);
        Check.put(x);
        Check.same("pieces(0)", x.pieces(0), 2);
        Check.same("pieceLength(0, 0)", x.pieceLength(0, 0), 4);
        Check.same("pieceLength(0, 1)", x.pieceLength(0, 1), 5);
        for (int piece : new int[] {2, 3, -1, Integer.MAX_VALUE, Integer.MIN_VALUE}) {
            Check.fails("pieceLength(0, " + piece + ")", x, INDEX, () -> x.pieceLength(0, piece));
        }
        Check.same("pieces of an empty file", x.pieces(1), 0);
        Check.fails("pieceLength(1, 0)", x, INDEX, () -> x.pieceLength(1, 0));
    }

    private static void newAreThoseThatAreNotKept() {
        Patchferry x = new Patchferry();
        Check.put(x);
        Check.put(x, Check.join(FOUR, FOUR));
        Check.put(x, FOUR);
        Check.put(x, Check.join(FOUR, new int[] {1}));
        Check.put(x, 0, 0, 0);
        Check.same("store of an empty file", x.store(0), 0);
        Check.same("stored()", x.stored(), 0);
        Check.same("a piece that comes twice is new once", x.store(1), 4);
        Check.same("stored()", x.stored(), 4);
        Check.same("a piece that is used is not new", x.store(2), 0);
        x.drop(1);
        x.drop(2);
        Check.same("a piece that is kept, not used, is not new", x.store(2), 0);
        Check.same("one of two is new", x.store(3), 1);
        Check.same("a beginning of a piece is new", x.store(4), 3);
        Check.same("stored()", x.stored(), 8);
        x.drop(2);
        x.drop(3);
        x.collect();
        Check.same("what was collected is new again", x.store(2), 4);
    }

    private static void theFileIsStored() {
        Patchferry x = new Patchferry();
        Check.put(x);
        Check.put(x, FOUR);
        Check.put(x, FOUR);
        for (int file = 0; file < 3; file++) {
            int asked = file;
            Check.fails("drop ahead of store", x, UNSUPPORTED, () -> x.drop(asked));
            x.store(file);
            Check.fails("store again", x, UNSUPPORTED, () -> x.store(asked));
        }
        Check.same("drop of an empty file", x.drop(0), 1);
        Check.fails("drop again", x, UNSUPPORTED, () -> x.drop(0));
        Check.same("drop of one of two like files", x.drop(1), 1);
        Check.same("the other one uses its piece", x.collect(), 0);
        Check.fails("drop again", x, UNSUPPORTED, () -> x.drop(1));
        Check.same("store once more", x.store(1), 0);
    }

    private static void droppingLeavesPieces() {
        Patchferry x = new Patchferry();
        Check.put(x);
        Check.put(x, Check.join(FOUR, new int[] {1, 2}));
        Check.put(x, Check.join(FOUR, new int[] {3}));
        x.store(0);
        Check.same("none is kept", x.drop(0), 0);
        x.store(1);
        x.store(2);
        Check.same("three are kept", x.drop(1), 3);
        Check.same("used or not", x.drop(2), 3);
        Check.same("stored()", x.stored(), 7);
        Check.same("collect()", x.collect(), 7);
        Check.same("stored()", x.stored(), 0);
        Check.same("collect() again", x.collect(), 0);
        x.store(0);
        Check.same("none is kept", x.drop(0), 0);
    }

    private static void collectingWhatIsNotUsed() {
        Patchferry x = new Patchferry();
        Check.same("collect() at first", x.collect(), 0);
        Check.put(x, Check.join(FOUR, FOUR, new int[] {1}));
        Check.put(x, Check.join(FOUR, new int[] {2, 2}));
        x.store(0);
        Check.same("all is used", x.collect(), 0);
        x.store(1);
        x.drop(0);
        Check.same("used twice by one, once by the other", x.collect(), 1);
        Check.same("stored()", x.stored(), 6);
        x.drop(1);
        Check.same("used by none", x.collect(), 6);
        Check.isTrue("isSound()", x.isSound());
    }

    private static void aLikenessOf0And100() {
        Patchferry x = new Patchferry();
        Check.put(x);
        Check.put(x);
        Check.put(x, 1);
        Check.put(x, 2);
        Check.put(x, 1);
        Check.put(x, Check.row(0, 200));
        Check.put(x, Check.row(0, 200));
        Check.same("two empty ones", x.likeness(0, 1), 0);
        Check.same("an empty one with itself", x.likeness(0, 0), 0);
        Check.same("an empty one with another", x.likeness(0, 2), 0);
        Check.same("another with an empty one", x.likeness(2, 0), 0);
        Check.same("one byte, unlike", x.likeness(2, 3), 0);
        Check.same("one byte, alike", x.likeness(2, 4), 100);
        Check.same("200 bytes", x.likeness(5, 6), 100);
    }

    private static void eachOneTakenOnce() {
        Patchferry x = new Patchferry();
        Check.put(x, FOUR);
        Check.put(x, Check.join(FOUR, FOUR));
        Check.put(x, Check.join(FOUR, FOUR, FOUR));
        Check.same("one and two", x.likeness(0, 1), 200 * 4 / 12);
        Check.same("two and one", x.likeness(1, 0), 200 * 4 / 12);
        Check.same("two and three", x.likeness(1, 2), 200 * 8 / 20);
        Check.same("three and one", x.likeness(2, 0), 200 * 4 / 16);
        Check.same("asked again", x.likeness(2, 0), 200 * 4 / 16);
        Patchferry y = new Patchferry();
        Check.put(y, Check.join(FOUR, new int[] {1, 1}));
        Check.put(y, 1, 1);
        Check.put(y, 0, 0);
        Check.same("a piece at another place", y.likeness(0, 1), 200 * 2 / 8);
        Check.same("no piece, but a part of one", y.likeness(0, 2), 0);
        Check.same("as long as a piece", y.likeness(1, 2), 0);
    }

    private static void aLikenessIsCut() {
        Patchferry x = new Patchferry();
        Check.put(x, FOUR);
        Check.put(x, Check.join(FOUR, new int[] {1}));
        Check.put(x, Check.join(FOUR, new int[] {1, 1, 1}));
        Check.put(x, Check.join(FOUR, Check.row(9, 6)));
        // 800 divided by 9 is 88 and 8 ninths, by 11 it is 72 and 8 elevenths, by 14 it is 57 and 1 seventh.
        Check.same("88 and a part", x.likeness(0, 1), 88);
        Check.same("72 and a part", x.likeness(0, 2), 72);
        Check.same("57 and a part", x.likeness(3, 0), 57);
    }

    private static void theFolderIs0To2() {
        Patchferry x = new Patchferry();
        Check.put(x, 1);
        Check.same("none at first", x.setFolder(0, 0), 0);
        Check.same("none before", x.setFolder(0, 1), 0);
        Check.same("old before", x.setFolder(0, 1), 1);
        Check.same("old before", x.setFolder(0, 2), 1);
        Check.same("new before", x.setFolder(0, 0), 2);
        for (int folder : new int[] {-1, 3, 4, Integer.MIN_VALUE, Integer.MAX_VALUE}) {
            Check.fails("setFolder(0, " + folder + ")", x, ARGUMENT, () -> x.setFolder(0, folder));
            Check.fails("setFolder(1, " + folder + ")", x, INDEX, () -> x.setFolder(1, folder));
        }
        Check.same("none before", x.setFolder(0, 0), 0);
    }

    /** Files of 32 and of 95, 96, 97 bytes with a piece of 32 in common: 6400 divided by 127, 128 and 129. */
    private static void aLikenessOf49And50() {
        Patchferry x = new Patchferry();
        Check.put(x, Check.row(0, 32));
        int[] unlike = new int[64];
        for (int k = 0; k < 64; k++) {
            unlike[k] = k / 32 * 8 + 8;
        }
        Check.put(x, Check.join(Check.row(0, 32), java.util.Arrays.copyOf(unlike, 63)));
        Check.put(x, Check.join(Check.row(0, 32), unlike));
        Check.put(x, Check.join(Check.row(0, 32), unlike, new int[] {1}));
        Check.put(x);
        Check.put(x);
        Check.same("6400 divided by 127", x.likeness(0, 1), 50);
        Check.same("6400 divided by 128", x.likeness(0, 2), 50);
        Check.same("6400 divided by 129", x.likeness(0, 3), 49);
        x.setFolder(0, 1);
        for (int file = 1; file < 3; file++) {
            x.setFolder(file, 2);
            Check.same("renamed with 50", x.renamed(file), 0);
            x.setFolder(file, 0);
        }
        x.setFolder(3, 2);
        Check.fails("renamed with 49", x, NONE, () -> x.renamed(3));
        x.setFolder(3, 1);
        x.setFolder(0, 2);
        Check.fails("renamed with 49, the other way round", x, NONE, () -> x.renamed(0));
        x.setFolder(4, 1);
        x.setFolder(5, 2);
        Check.fails("two empty files", x, NONE, () -> x.renamed(5));
    }

    private static void lowerNumbersFirst() {
        Patchferry x = new Patchferry();
        for (int file = 0; file < 24; file++) {
            Check.put(x, file == 5 ? Check.join(FOUR, new int[] {1}) : FOUR);
            x.setFolder(file, file < 12 ? 1 : 2);
        }
        int[] due = {0, 1, 2, 3, 4, 6, 7, 8, 9, 10, 11, 5};
        for (int file = 12; file < 24; file++) {
            Check.same("renamed(" + file + ")", x.renamed(file), due[file - 12]);
        }
        x.setFolder(0, 2);
        Check.same("the lowest new one", x.renamed(0), 1);
        Check.same("the next one", x.renamed(12), 2);
        Check.same("the last of the like ones", x.renamed(20), 11);
        Check.same("the less alike one", x.renamed(21), 5);
        Check.fails("left over", x, NONE, () -> x.renamed(22));
        Check.fails("left over", x, NONE, () -> x.renamed(23));
    }

    private static void notInTheNewFolderOrNone() {
        Patchferry x = new Patchferry();
        Check.put(x, FOUR);
        Check.put(x, FOUR);
        Check.fails("in none", x, NONE, () -> x.renamed(0));
        x.setFolder(0, 2);
        Check.fails("without an old one", x, NONE, () -> x.renamed(0));
        x.setFolder(1, 1);
        Check.same("with an old one", x.renamed(0), 1);
        Check.fails("in the old one", x, NONE, () -> x.renamed(1));
        x.setFolder(1, 2);
        Check.fails("both in the new one", x, NONE, () -> x.renamed(0));
        x.setFolder(0, 1);
        Check.same("the other way round", x.renamed(1), 0);
        x.setFolder(0, 0);
        Check.fails("taken out again", x, NONE, () -> x.renamed(1));
    }
}
