/** Promises 35 to 38. */
public final class BlocksTest {
    private static final Class<IndexOutOfBoundsException> INDEX = IndexOutOfBoundsException.class;
    private static final Class<IllegalArgumentException> ARGUMENT = IllegalArgumentException.class;

    public static void main(String[] args) {
        fewBlocks();
        falseBlocks();
        promise38BestLength();
        wrong();
        manyBlocks();
        Check.end("BlocksTest");
    }

    private static void blocks(Patchferry x, int length, int literals, int falseOnes, int wire) {
        Check.same("literals by " + length, x.literals(0, 1, length), literals);
        Check.same("falseOnes by " + length, x.falseOnes(0, 1, length), falseOnes);
        Check.same("wire by " + length, x.wire(0, 1, length), wire);
    }

    private static void fewBlocks() {
        Patchferry x = new Patchferry();
        Check.put(x, 1, 2, 3, 4, 5, 6, 7, 8, 9);
        Check.put(x, 99, 5, 6, 7, 8, 1, 2, 3, 4, 9, 1, 2, 3, 4, 1);
        blocks(x, 4, 3, 0, 12 + 3 + 9);
        blocks(x, 9, 15, 1, 6 + 15);
        blocks(x, 10, 15, 0, 15);
        blocks(x, 64, 15, 0, 15);
        Patchferry y = new Patchferry();
        Check.put(y);
        Check.put(y, 1, 2);
        blocks(y, 2, 2, 0, 2);
        Patchferry z = new Patchferry();
        Check.put(z, 1, 2, 3, 4);
        Check.put(z);
        blocks(z, 2, 0, 0, 12);
    }

    private static void falseBlocks() {
        Patchferry x = new Patchferry();
        Check.put(x, 1, 4, 2, 3, 3, 2, 4, 1);
        Check.put(x, 3, 2, 5, 0, 4, 1, 0, 5);
        // Two false ones ahead of 3 2, four at 5 0, three ahead of 4 1, four at 0 5.
        blocks(x, 2, 4, 13, 24 + 4 + 6);
        Patchferry y = new Patchferry();
        Check.put(y, 255, 1, 128, 128);
        Check.put(y, 0, 0, 128, 128);
        blocks(y, 2, 2, 3, 12 + 2 + 3);
    }

    private static void promise38BestLength() {
        Patchferry x = new Patchferry();
        int[] text = Check.rising(0, 200);
        Check.put(x, text);
        Check.put(x, text);
        Check.put(x, java.util.Arrays.copyOf(text, 128));
        Check.put(x, 1, 2, 3);
        Check.put(x);
        Check.same("the same bytes", x.bestLength(0, 1), 64);
        Check.same("two long blocks", x.bestLength(0, 2), 64);
        Check.same("no block is used", x.bestLength(3, 4), 4);
        Check.same("of nothing, the least one", x.bestLength(4, 3), 2);
        Check.same("to nothing, the fewest blocks", x.bestLength(0, 4), 64);
        Check.fails("bestLength(0, 5)", x, INDEX, () -> x.bestLength(0, 5));
        Check.fails("bestLength(-1, 0)", x, INDEX, () -> x.bestLength(-1, 0));
    }

    private static void wrong() {
        Patchferry x = new Patchferry();
        Check.put(x, 1, 2, 3);
        Check.put(x, 1, 2, 3);
        int[][] lengths = {{1}, {0}, {-4}, {65}, {Integer.MAX_VALUE}, {Integer.MIN_VALUE}};
        for (int[] length : lengths) {
            Check.fails("literals by " + length[0], x, ARGUMENT, () -> x.literals(0, 1, length[0]));
            Check.fails("falseOnes by " + length[0], x, ARGUMENT, () -> x.falseOnes(0, 1, length[0]));
            Check.fails("wire by " + length[0], x, ARGUMENT, () -> x.wire(0, 1, length[0]));
        }
        Check.fails("literals of no file", x, INDEX, () -> x.literals(2, 0, 1));
        Check.fails("falseOnes of no file", x, INDEX, () -> x.falseOnes(0, 2, 65));
        Check.fails("wire of no file", x, INDEX, () -> x.wire(-1, 0, 2));
    }

    private static void manyBlocks() {
        Dice dice = new Dice(8);
        for (int round = 0; round < 150; round++) {
            Patchferry x = new Patchferry();
            int[] old = dice.mixed(200);
            int[] young = dice.below(3) == 0 ? dice.mixed(200) : dice.altered(old);
            Check.put(x, old);
            Check.put(x, young);
            int best = 2;
            for (int length = 2; length <= 64; length++) {
                int[] due = Plain.blocks(old, young, length);
                blocks(x, length, due[0], due[1], due[2]);
                boolean isPower = (length & length - 1) == 0;
                best = isPower && due[2] < Plain.blocks(old, young, best)[2] ? length : best;
            }
            Check.same("bestLength", x.bestLength(0, 1), best);
        }
    }
}
