import java.util.ArrayList;
import java.util.Arrays;
import java.util.List;

/** Each sentence of promises 64 to 66 and of "Trees of sums" that names a boundary: at it, below it, above it. */
public final class TreeBoundsTest {
    private static final Class<IndexOutOfBoundsException> INDEX = IndexOutOfBoundsException.class;
    private static final Class<UnsupportedOperationException> UNSUPPORTED = UnsupportedOperationException.class;
    private static final int[] TEXT = Check.rising(30, 200);

    public static void main(String[] args) {
        atLeastOneLeaf();
        leavesOf8BytesTheLastOneShorter();
        theNumberOfLeaves();
        oneThatIsLeftOverGoesUpAsItIs();
        aboveTwoSums();
        theNumberOfTheLeaf();
        notAsManyLeaves();
        aLeafOfAMirrorIsProved();
        theFirstLeafThatIsNotProved();
        Check.end("TreeBoundsTest");
    }

    private static long leaf(int from, int to) {
        return Plain.strong(TEXT, from, to, 1);
    }

    private static long above(long left, long right) {
        return (31 * left + 17 * right + 3) % 1000003;
    }

    private static Patchferry cut(int many) {
        Patchferry x = new Patchferry();
        Check.put(x, Arrays.copyOf(TEXT, many));
        return x;
    }

    private static void root(int many, long due) {
        Check.same("the root of " + many + " bytes", cut(many).rootOf(0), due);
    }

    private static void atLeastOneLeaf() {
        Patchferry x = cut(0);
        Check.same("the root of nothing", x.rootOf(0), 1);
        Check.same("its sum", x.sumOf(0), 1);
        Check.isTrue("its leaf", x.proves(0, 0, 0));
        Check.fails("a second leaf", x, INDEX, () -> x.proves(0, 0, 1));
        Check.same("liar", x.liar(0, 0), -1);
    }

    private static void leavesOf8BytesTheLastOneShorter() {
        root(1, leaf(0, 1));
        root(7, leaf(0, 7));
        root(8, leaf(0, 8));
        root(9, above(leaf(0, 8), leaf(8, 9)));
        root(15, above(leaf(0, 8), leaf(8, 15)));
        root(16, above(leaf(0, 8), leaf(8, 16)));
        Check.same("the root of one leaf is its sum", cut(8).rootOf(0), cut(8).sumOf(0));
        Check.isFalse("the root of two leaves is not", cut(9).rootOf(0) == cut(9).sumOf(0));
    }

    private static void theNumberOfLeaves() {
        int[] many = {0, 1, 7, 8, 9, 16, 17, 24, 25, 192, 193, 199, 200};
        int[] leaves = {1, 1, 1, 1, 2, 2, 3, 3, 4, 24, 25, 25, 25};
        for (int k = 0; k < many.length; k++) {
            Patchferry x = cut(many[k]);
            int behind = leaves[k];
            Check.isTrue("the last leaf of " + many[k], x.proves(0, 0, behind - 1));
            Check.fails("a leaf more of " + many[k], x, INDEX, () -> x.proves(0, 0, behind));
        }
    }

    private static void oneThatIsLeftOverGoesUpAsItIs() {
        long first = above(leaf(0, 8), leaf(8, 16));
        long second = above(leaf(16, 24), leaf(24, 32));
        root(17, above(first, leaf(16, 17)));
        root(24, above(first, leaf(16, 24)));
        root(25, above(first, above(leaf(16, 24), leaf(24, 25))));
        root(32, above(first, second));
        root(33, above(above(first, second), leaf(32, 33)));
        root(40, above(above(first, second), leaf(32, 40)));
        root(41, above(above(first, second), above(leaf(32, 40), leaf(40, 41))));
        long third = above(leaf(32, 40), leaf(40, 48));
        root(49, above(above(first, second), above(third, leaf(48, 49))));
        for (int count : new int[] {192, 193, 199, 200}) {
            root(count, Plain.root(Plain.leaves(Arrays.copyOf(TEXT, count))));
        }
    }

    /** A leaf of eight 0 and one of a 5, whose sum is 257 and 5 and 1. */
    private static void aboveTwoSums() {
        Patchferry x = new Patchferry();
        Check.put(x, 0, 0, 0, 0, 0, 0, 0, 0, 5);
        long left = 1;
        for (int k = 0; k < 8; k++) {
            left = (257 * left + 1) % 1000003;
        }
        Check.same("31 p plus 17 q plus 3", x.rootOf(0), (31 * left + 17 * 263 + 3) % 1000003);
        Check.same("below 1000003", x.rootOf(0) < 1000003 && x.rootOf(0) >= 0 ? 1 : 0, 1);
    }

    private static void theNumberOfTheLeaf() {
        Patchferry x = cut(200);
        Check.put(x, Check.rising(1, 193));
        Check.isTrue("proves(0, 0, 0)", x.proves(0, 0, 0));
        Check.isTrue("proves(0, 0, 24)", x.proves(0, 0, 24));
        Check.isFalse("proves(0, 1, 24)", x.proves(0, 1, 24));
        for (int number : new int[] {25, 26, -1, Integer.MIN_VALUE, Integer.MAX_VALUE}) {
            Check.fails("proves(0, 0, " + number + ")", x, INDEX, () -> x.proves(0, 0, number));
        }
    }

    private static void notAsManyLeaves() {
        Patchferry x = cut(16);
        Check.put(x, Arrays.copyOf(TEXT, 8));
        Check.put(x, Arrays.copyOf(TEXT, 9));
        Check.put(x, Arrays.copyOf(TEXT, 17));
        Check.put(x);
        Check.put(x, 3);
        for (int mirror : new int[] {1, 3, 4}) {
            Check.fails("proves(0, " + mirror + ", 0)", x, UNSUPPORTED, () -> x.proves(0, mirror, 0));
            Check.fails("liar(0, " + mirror + ")", x, UNSUPPORTED, () -> x.liar(0, mirror));
            Check.fails("no such leaf of the file", x, INDEX, () -> x.proves(0, mirror, 2));
            Check.fails("no such leaf of file " + mirror, x, UNSUPPORTED, () -> x.proves(mirror, 0, 0));
        }
        Check.fails("a leaf that the mirror alone has", x, INDEX, () -> x.proves(1, 0, 1));
        Check.isTrue("as many, the last one shorter", x.proves(0, 2, 0));
        Check.isFalse("as many, the last one shorter", x.proves(0, 2, 1));
        Check.same("liar", x.liar(0, 2), 1);
        Check.isFalse("nothing and one byte have one leaf", x.proves(4, 5, 0));
        Check.same("liar", x.liar(4, 5), 0);
        Check.same("liar", x.liar(5, 4), 0);
        Check.same("nothing and eight bytes", x.liar(4, 1), 0);
    }

    private static void aLeafOfAMirrorIsProved() {
        for (int many : new int[] {8, 9, 16, 17, 41, 200}) {
            int[] text = Arrays.copyOf(TEXT, many);
            List<Integer> places = new ArrayList<>(List.of(0, 7, many - 1, many / 2));
            for (int place : places) {
                int[] mirror = text.clone();
                mirror[place]++;
                Patchferry x = new Patchferry();
                Check.put(x, text);
                Check.put(x, mirror);
                for (int leaf = 0; leaf < (many + 7) / 8; leaf++) {
                    Check.same("a leaf of " + many, x.proves(0, 1, leaf) ? 1 : 0, leaf == place / 8 ? 0 : 1);
                }
                Check.same("the liar of " + many, x.liar(0, 1), place / 8);
            }
        }
    }

    private static void theFirstLeafThatIsNotProved() {
        int[] mirror = TEXT.clone();
        Patchferry x = cut(200);
        Check.put(x, mirror);
        Check.same("none", x.liar(0, 1), -1);
        for (int leaf = 24; leaf >= 0; leaf--) {
            mirror[8 * leaf + leaf % 8] ^= 1;
            Patchferry y = cut(200);
            Check.put(y, mirror);
            Check.same("the first one of " + (25 - leaf), y.liar(0, 1), leaf);
        }
    }
}
