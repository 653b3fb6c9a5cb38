import java.util.ArrayList;
import java.util.HashMap;
import java.util.HashSet;
import java.util.List;
import java.util.Map;
import java.util.NoSuchElementException;
import java.util.Set;

/** Promises 26 to 34. */
public final class PiecesTest {
    private static final Class<IndexOutOfBoundsException> INDEX = IndexOutOfBoundsException.class;
    private static final Class<UnsupportedOperationException> UNSUPPORTED = UnsupportedOperationException.class;
    private static final Class<NoSuchElementException> NONE = NoSuchElementException.class;

    /** Eight bytes that are cut into two pieces of four: each one's roll is 7. */
    private static final int[] FOURS = {0, 0, 0, 7, 0, 0, 3, 1};

    public static void main(String[] args) {
        promises26And27Pieces();
        promises28To31Store();
        promise32Likeness();
        promise33SetFolder();
        promise34Renamed();
        manyFiles();
        manyStores();
        Check.end("PiecesTest");
    }

    private static void pieces(Patchferry x, int file, int... due) {
        Check.same("pieces(" + file + ")", x.pieces(file), due.length);
        for (int k = 0; k < due.length; k++) {
            Check.same("pieceLength(" + file + ", " + k + ")", x.pieceLength(file, k), due[k]);
        }
    }

    private static void promises26And27Pieces() {
        Patchferry x = new Patchferry();
        Check.put(x);
        Check.put(x, 1);
        Check.put(x, Check.row(0, 32));
        Check.put(x, Check.row(0, 33));
        Check.put(x, Check.row(0, 200));
        Check.put(x, FOURS);
        Check.put(x, Check.join(FOURS, new int[] {7}));
        Check.put(x, 7, 0, 0, 0, 0, 15, 5);
        Check.put(x, 0, 0, 7, 0, 0, 7);
        pieces(x, 0);
        pieces(x, 1, 1);
        pieces(x, 2, 32);
        pieces(x, 3, 32, 1);
        pieces(x, 4, 32, 32, 32, 32, 32, 32, 8);
        pieces(x, 5, 4, 4);
        pieces(x, 6, 4, 4, 1);
        pieces(x, 7, 6, 1);
        pieces(x, 8, 6);
        Check.fails("pieces(9)", x, INDEX, () -> x.pieces(9));
        Check.fails("pieces(-1)", x, INDEX, () -> x.pieces(-1));
        Check.fails("pieceLength(0, 0)", x, INDEX, () -> x.pieceLength(0, 0));
        Check.fails("pieceLength(3, 2)", x, INDEX, () -> x.pieceLength(3, 2));
        Check.fails("pieceLength(3, -1)", x, INDEX, () -> x.pieceLength(3, -1));
        Check.fails("pieceLength(9, 0)", x, INDEX, () -> x.pieceLength(9, 0));
    }

    private static void promises28To31Store() {
        Patchferry x = new Patchferry();
        Check.put(x, FOURS);
        Check.put(x, Check.join(FOURS, FOURS, new int[] {9, 9}));
        Check.put(x, 0, 0, 0, 7, 5);
        Check.put(x);
        Check.same("collect() of nothing", x.collect(), 0);
        Check.same("store(1)", x.store(1), 10);
        Check.same("stored()", x.stored(), 10);
        Check.same("store(0), all of it kept", x.store(0), 0);
        Check.same("store(2)", x.store(2), 1);
        Check.same("store of nothing", x.store(3), 0);
        Check.same("stored()", x.stored(), 11);
        Check.fails("store(1) again", x, UNSUPPORTED, () -> x.store(1));
        Check.fails("store(4)", x, INDEX, () -> x.store(4));
        Check.fails("store(-1)", x, INDEX, () -> x.store(-1));
        Check.fails("drop(4)", x, INDEX, () -> x.drop(4));
        Check.same("drop(1)", x.drop(1), 4);
        Check.fails("drop(1) again", x, UNSUPPORTED, () -> x.drop(1));
        Check.same("dropping leaves pieces", x.stored(), 11);
        Check.same("only what is not used is collected", x.collect(), 2);
        Check.same("stored()", x.stored(), 9);
        Check.same("drop(2)", x.drop(2), 3);
        Check.same("store(2): kept, but not used", x.store(2), 0);
        Check.same("drop(2)", x.drop(2), 3);
        Check.same("drop(0)", x.drop(0), 3);
        Check.same("collect() of all", x.collect(), 9);
        Check.same("stored()", x.stored(), 0);
        Check.same("store(1) anew", x.store(1), 10);
        Check.same("drop of nothing", x.drop(3), 3);
        Check.isTrue("isSound()", x.isSound());
    }

    private static void promise32Likeness() {
        Patchferry x = new Patchferry();
        Check.put(x, FOURS);
        Check.put(x, Check.join(FOURS, FOURS, new int[] {9, 9}));
        Check.put(x, 0, 0, 0, 7, 0, 0, 0, 7, 0, 0, 0, 7);
        Check.put(x);
        Check.put(x);
        Check.same("with itself", x.likeness(1, 1), 100);
        Check.same("likeness(0, 1)", x.likeness(0, 1), 200 * 8 / 26);
        Check.same("likeness(1, 0)", x.likeness(1, 0), 200 * 8 / 26);
        Check.same("each one taken once", x.likeness(1, 2), 200 * 8 / 30);
        Check.same("each one taken once", x.likeness(2, 0), 200 * 4 / 20);
        Check.same("of nothing", x.likeness(0, 3), 0);
        Check.same("both empty", x.likeness(3, 4), 0);
        Check.same("both empty, the same", x.likeness(3, 3), 0);
        Check.fails("likeness(0, 5)", x, INDEX, () -> x.likeness(0, 5));
        Check.fails("likeness(-1, 0)", x, INDEX, () -> x.likeness(-1, 0));
    }

    private static void promise33SetFolder() {
        Patchferry x = new Patchferry();
        Check.put(x, 1);
        Check.same("setFolder(0, 2)", x.setFolder(0, 2), 0);
        Check.same("setFolder(0, 1)", x.setFolder(0, 1), 2);
        Check.same("setFolder(0, 0)", x.setFolder(0, 0), 1);
        Check.fails("setFolder(0, 3)", x, IllegalArgumentException.class, () -> x.setFolder(0, 3));
        Check.fails("setFolder(0, -1)", x, IllegalArgumentException.class, () -> x.setFolder(0, -1));
        Check.fails("setFolder(1, 3)", x, INDEX, () -> x.setFolder(1, 3));
        Check.same("what a refused one leaves", x.setFolder(0, 0), 0);
    }

    private static void promise34Renamed() {
        Patchferry x = new Patchferry();
        int[] seven = {0, 0, 0, 7};
        int[] other = {1, 0, 0, 7};
        Check.put(x, seven);
        Check.put(x, Check.join(seven, other));
        Check.put(x, seven);
        Check.put(x, Check.join(seven, other));
        Check.put(x, Check.join(seven, seven));
        Check.put(x, Check.join(seven, new int[] {9, 9, 9, 9, 9, 9, 9, 9}));
        Check.put(x, Check.join(seven, new int[] {9, 9, 9, 9, 9, 9, 9, 9, 9}));
        Check.fails("in no folder", x, NONE, () -> x.renamed(0));
        Check.fails("renamed(7)", x, INDEX, () -> x.renamed(7));
        Check.fails("renamed(-1)", x, INDEX, () -> x.renamed(-1));
        x.setFolder(0, 1);
        Check.fails("in the old folder", x, NONE, () -> x.renamed(0));
        x.setFolder(5, 2);
        Check.same("likeness 50", x.renamed(5), 0);
        x.setFolder(6, 2);
        Check.fails("each old file once", x, NONE, () -> x.renamed(6));
        x.setFolder(5, 0);
        Check.fails("likeness below 50", x, NONE, () -> x.renamed(6));
        x.setFolder(1, 2);
        Check.same("the greater likeness", x.renamed(1), 0);
        x.setFolder(4, 2);
        Check.same("lower new ones first", x.renamed(1), 0);
        Check.fails("the later new one", x, NONE, () -> x.renamed(4));
        x.setFolder(2, 1);
        Check.same("lower old ones first", x.renamed(1), 0);
        Check.same("the next old one", x.renamed(4), 2);
        x.setFolder(3, 1);
        Check.same("the greatest likeness first", x.renamed(1), 3);
        Check.same("then the lower old one", x.renamed(4), 0);
        x.setFolder(3, 0);
        x.setFolder(0, 0);
        Check.same("taken out of the folder", x.renamed(1), 2);
    }

    private static void manyFiles() {
        Dice dice = new Dice(6);
        for (int round = 0; round < 40; round++) {
            Patchferry x = new Patchferry();
            List<int[]> texts = new ArrayList<>();
            int[] folders = new int[24];
            for (int file = 0; file < 24; file++) {
                boolean isNew = file == 0 || dice.below(3) == 0;
                texts.add(isNew ? dice.mixed(200) : dice.altered(texts.get(dice.below(file))));
                Check.put(x, texts.get(file));
                folders[file] = dice.below(5) / 2;
                x.setFolder(file, folders[file]);
                List<String> due = Plain.pieces(texts.get(file));
                Check.same("pieces", x.pieces(file), due.size());
                for (int k = 0; k < due.size(); k++) {
                    Check.same("pieceLength", x.pieceLength(file, k), due.get(k).length());
                }
            }
            Map<Integer, Integer> was = Plain.renamed(texts, folders);
            for (int file = 0; file < 24; file++) {
                int asked = file;
                for (int other = 0; other < 24; other++) {
                    Check.same("likeness", x.likeness(file, other), Plain.likeness(texts.get(file), texts.get(other)));
                }
                if (was.containsKey(file)) {
                    Check.same("renamed", x.renamed(file), was.get(file));
                } else {
                    Check.fails("renamed", x, NONE, () -> x.renamed(asked));
                }
            }
        }
    }

    /** The shelf of the oracle: how often each kept piece is used. */
    private static void manyStores() {
        Dice dice = new Dice(7);
        for (int round = 0; round < 40; round++) {
            Patchferry x = new Patchferry();
            List<int[]> texts = new ArrayList<>();
            for (int file = 0; file < 12; file++) {
                texts.add(file % 4 == 0 ? dice.mixed(200) : dice.altered(texts.get(dice.below(file))));
                Check.put(x, texts.get(file));
            }
            Map<String, Integer> uses = new HashMap<>();
            Set<Integer> in = new HashSet<>();
            for (int call = 0; call < 100; call++) {
                int file = dice.below(12);
                if (dice.below(6) == 0) {
                    int before = bytes(uses);
                    uses.values().removeIf(k -> k == 0);
                    Check.same("collect", x.collect(), before - bytes(uses));
                } else if (in.remove(file)) {
                    Plain.pieces(texts.get(file)).forEach(piece -> uses.merge(piece, -1, Integer::sum));
                    Check.same("drop", x.drop(file), uses.size());
                } else {
                    in.add(file);
                    int before = bytes(uses);
                    Plain.pieces(texts.get(file)).forEach(piece -> uses.merge(piece, 1, Integer::sum));
                    Check.same("store", x.store(file), bytes(uses) - before);
                }
                Check.same("stored", x.stored(), bytes(uses));
                Check.isTrue("isSound", x.isSound());
            }
        }
    }

    private static int bytes(Map<String, Integer> uses) {
        return uses.keySet().stream().mapToInt(String::length).sum();
    }
}
