/** Each sentence of promises 35 to 38 and of "Blocks" that names a boundary: at it, below it, above it. */
public final class BlockBoundsTest {
    private static final Class<IllegalArgumentException> ARGUMENT = IllegalArgumentException.class;
    private static final Class<IndexOutOfBoundsException> INDEX = IndexOutOfBoundsException.class;

    public static void main(String[] args) {
        theLengthIs2To64();
        aFileShorterThanOneBlock();
        aNewFileShorterThanOneBlock();
        wholeBlocksAlone();
        itGoesOnBehindIt();
        theWeakSumIsModulo256();
        theStrongSumIsModulo1000003();
        falseOnesAhead();
        theWireTakes();
        theLengthByWhichTheWireTakesLeast();
        Check.end("BlockBoundsTest");
    }

    private static Patchferry two(int[] old, int[] young) {
        Patchferry x = new Patchferry();
        Check.put(x, old);
        Check.put(x, young);
        return x;
    }

    private static void blocks(int length, int literals, int falseOnes, int wire, int[] old, int... young) {
        Patchferry x = two(old, young);
        Check.same("literals by " + length, x.literals(0, 1, length), literals);
        Check.same("falseOnes by " + length, x.falseOnes(0, 1, length), falseOnes);
        Check.same("wire by " + length, x.wire(0, 1, length), wire);
    }

    private static void theLengthIs2To64() {
        int[] text = Check.rising(0, 130);
        Patchferry x = two(text, text);
        for (int length : new int[] {1, 0, -1, -2, 65, 66, Integer.MIN_VALUE, Integer.MAX_VALUE}) {
            Check.fails("literals by " + length, x, ARGUMENT, () -> x.literals(0, 1, length));
            Check.fails("falseOnes by " + length, x, ARGUMENT, () -> x.falseOnes(0, 1, length));
            Check.fails("wire by " + length, x, ARGUMENT, () -> x.wire(0, 1, length));
            Check.fails("literals of no file", x, INDEX, () -> x.literals(2, 1, length));
            Check.fails("falseOnes of no other file", x, INDEX, () -> x.falseOnes(0, 2, length));
            Check.fails("wire of no file", x, INDEX, () -> x.wire(-1, 2, length));
        }
        Check.same("literals by 2", x.literals(0, 1, 2), 0);
        Check.same("wire by 2", x.wire(0, 1, 2), 65 * 9);
        Check.same("literals by 3", x.literals(0, 1, 3), 1);
        Check.same("wire by 3", x.wire(0, 1, 3), 43 * 9 + 1);
        Check.same("literals by 63", x.literals(0, 1, 63), 4);
        Check.same("literals by 64", x.literals(0, 1, 64), 2);
        Check.same("wire by 64", x.wire(0, 1, 64), 2 * 9 + 2);
    }

    private static void aFileShorterThanOneBlock() {
        int[] young = Check.rising(1, 12);
        blocks(8, 12, 0, 12, Check.rising(1, 7), young);
        blocks(8, 4, 0, 6 + 4 + 3, Check.rising(1, 8), young);
        blocks(8, 4, 0, 6 + 4 + 3, Check.rising(1, 9), young);
        blocks(8, 12, 0, 12, new int[0], young);
        blocks(2, 12, 0, 12, new int[] {1}, young);
        blocks(2, 10, 0, 6 + 10 + 3, new int[] {1, 2}, young);
        blocks(64, 200, 0, 200, Check.rising(0, 63), Check.rising(0, 200));
        // From 64 to 136, the weak sum is that of the block at every fourth place.
        blocks(64, 136, 19, 6 + 136 + 3, Check.rising(0, 64), Check.rising(0, 200));
    }

    private static void aNewFileShorterThanOneBlock() {
        int[] old = Check.rising(1, 8);
        blocks(8, 7, 0, 6 + 7, old, Check.rising(1, 7));
        blocks(8, 0, 0, 6 + 3, old, Check.rising(1, 8));
        blocks(8, 1, 0, 6 + 1 + 3, old, Check.rising(1, 9));
        blocks(8, 1, 0, 6 + 1 + 3, old, Check.rising(0, 9));
        blocks(8, 0, 0, 6, old);
        blocks(2, 0, 0, 0, new int[0]);
    }

    private static void wholeBlocksAlone() {
        int[] young = {7, 8, 9, 10};
        blocks(4, 4, 0, 6 + 4, Check.rising(3, 7), young);
        blocks(4, 0, 0, 12 + 3, Check.rising(3, 8), young);
        blocks(4, 0, 0, 12 + 3, Check.rising(3, 9), young);
        blocks(4, 4, 0, 12 + 4, Check.rising(4, 8), young);
    }

    private static void itGoesOnBehindIt() {
        int[] old = {1, 1, 1, 1, 2, 2};
        blocks(2, 0, 0, 18 + 6, old, 1, 1, 1, 1);
        blocks(2, 1, 0, 18 + 6 + 1, old, 1, 1, 1, 1, 1);
        blocks(2, 2, 0, 18 + 3 + 2, old, 1, 1, 1, 2);
        blocks(2, 1, 0, 18 + 6 + 1, old, 9, 1, 1, 2, 2);
        blocks(2, 1, 0, 18 + 6 + 1, old, 1, 1, 9, 2, 2);
    }

    private static void theWeakSumIsModulo256() {
        int[] old = {255, 0};
        blocks(2, 2, 0, 8, old, 255, 255);
        blocks(2, 2, 1, 8, old, 254, 1);
        blocks(2, 2, 1, 8, old, 0, 255);
        blocks(2, 2, 0, 8, old, 255, 1);
        blocks(2, 2, 1, 8, new int[] {255, 1}, 0, 0);
        blocks(2, 2, 1, 8, new int[] {0, 0}, 128, 128);
        blocks(2, 2, 0, 8, new int[] {0, 0}, 128, 127);
        blocks(2, 2, 1, 8, new int[] {255, 255}, 254, 0);
    }

    /** Unlike bytes with both sums alike are taken for the block; with one more, the strong sums are unlike. */
    private static void theStrongSumIsModulo1000003() {
        int[] twin = twin();
        int[] old = {10, 20, 30, 40};
        Check.same("the weak sums", Plain.weak(twin, 0, 4), 100);
        Check.same("the strong sums", Plain.strong(twin, 0, 4, 0), Plain.strong(old, 0, 4, 0));
        Check.isFalse("the bytes", java.util.Arrays.equals(twin, old));
        blocks(4, 0, 0, 6 + 3, old, twin);
        int[] near = twin.clone();
        near[3]++;
        blocks(4, 4, 0, 6 + 4, old, near);
        near[2]--;
        blocks(4, 4, 1, 6 + 4, old, near);
    }

    /** Four bytes unlike 10 20 30 40, but with its sums. */
    private static int[] twin() {
        long due = Plain.strong(new int[] {10, 20, 30, 40}, 0, 4, 0);
        for (int code = 0; code < 1 << 24; code++) {
            int[] bytes = {code >> 16, code >> 8 & 255, code & 255, 0};
            int rest = 100 - bytes[0] - bytes[1] - bytes[2] & 255;
            bytes[3] = rest;
            if (bytes[0] != 10 && rest < 255 && bytes[2] > 0 && Plain.strong(bytes, 0, 4, 0) == due) {
                return bytes;
            }
        }
        throw new AssertionError("no twin");
    }

    private static void falseOnesAhead() {
        int[] old = {1, 4, 2, 3, 3, 2, 4, 1};
        blocks(2, 0, 0, 24 + 3, old, 1, 4);
        blocks(2, 0, 1, 24 + 3, old, 2, 3);
        blocks(2, 0, 3, 24 + 3, old, 4, 1);
        blocks(2, 2, 4, 24 + 2, old, 0, 5);
        blocks(2, 2, 0, 24 + 2, old, 0, 4);
        blocks(2, 3, 8, 24 + 3, old, 0, 5, 0);
        blocks(2, 0, 0, 12 + 3, new int[] {2, 3, 2, 3}, 2, 3);
        blocks(2, 0, 0, 12 + 3, new int[] {2, 3, 3, 2}, 2, 3);
    }

    private static void theWireTakes() {
        int[] old = Check.rising(1, 8);
        blocks(4, 0, 0, 12, old);
        blocks(4, 1, 0, 12 + 1, old, 99);
        blocks(4, 0, 0, 12 + 3, old, 5, 6, 7, 8);
        blocks(4, 0, 0, 12 + 3 + 3, old, 1, 2, 3, 4, 5, 6, 7, 8);
        blocks(4, 0, 0, 12 + 3 + 3, old, 5, 6, 7, 8, 5, 6, 7, 8);
        blocks(4, 1, 0, 12 + 3 + 1, old, 5, 6, 7, 8, 5);
    }

    private static void theLengthByWhichTheWireTakesLeast() {
        int[] none = {};
        best(2, none, none);
        best(2, none, Check.rising(0, 200));
        best(2, new int[] {1}, 1);
        best(4, new int[] {1, 2}, 9);
        best(4, new int[] {1, 2, 3}, 9);
        best(8, new int[] {1, 2, 3, 4}, 9);
        best(64, Check.rising(0, 63), 255);
        best(64, Check.rising(0, 64), Check.rising(0, 64));
        best(32, Check.rising(0, 63), Check.rising(0, 63));
        best(16, Check.rising(0, 31), Check.rising(0, 31));
        best(16, Check.rising(0, 15), Check.rising(0, 15));
        best(8, Check.rising(0, 8), Check.join(Check.rising(0, 8), Check.rising(0, 8)));
        sameLeast();
    }

    private static void best(int due, int[] old, int... young) {
        Patchferry x = two(old, young);
        Check.same("bestLength", x.bestLength(0, 1), due);
    }

    /** A block of 4 bytes that is used k times takes 6 and 3 k by 4, and 4 k by 8: as many for 6 times. */
    private static void sameLeast() {
        int[] old = Check.rising(0, 4);
        int[] five = Check.join(old, old, old, old, old);
        best(8, old, five);
        best(4, old, Check.join(five, old));
        best(4, old, Check.join(five, old, old));
        Patchferry x = two(Check.rising(0, 7), Check.join(Check.rising(0, 4), new int[] {99, 98, 97, 96, 95, 94}));
        // By 2 three blocks and two uses: 18 + 6 + 6; by 4 one and one: 6 + 3 + 6; by 8 none: 10.
        Check.same("wire by 2", x.wire(0, 1, 2), 30);
        Check.same("wire by 4", x.wire(0, 1, 4), 15);
        Check.same("wire by 8", x.wire(0, 1, 8), 10);
        Check.same("wire by 16", x.wire(0, 1, 16), 10);
        Check.same("wire by 64", x.wire(0, 1, 64), 10);
        Check.same("the least one of 8, 16, 32 and 64", x.bestLength(0, 1), 8);
    }
}
