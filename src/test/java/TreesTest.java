/** Promises 64 to 66. */
public final class TreesTest {
    private static final Class<IndexOutOfBoundsException> INDEX = IndexOutOfBoundsException.class;
    private static final Class<UnsupportedOperationException> UNSUPPORTED = UnsupportedOperationException.class;

    public static void main(String[] args) {
        promise64RootOf();
        promise65Proves();
        promise66Liar();
        manyTrees();
        Check.end("TreesTest");
    }

    private static void promise64RootOf() {
        Patchferry x = new Patchferry();
        Check.put(x);
        Check.put(x, 5);
        Check.put(x, Check.rising(0, 8));
        Check.put(x, Check.rising(0, 9));
        Check.put(x, Check.rising(0, 17));
        Check.same("the root of nothing", x.rootOf(0), 1);
        Check.same("one byte", x.rootOf(1), 263);
        Check.same("one leaf", x.rootOf(2), x.sumOf(2));
        long left = x.sumOf(2);
        Check.same("two leaves", x.rootOf(3), (31 * left + 17 * (257 + 9) + 3) % 1000003);
        long right = Plain.strong(Check.rising(0, 17), 8, 16, 1);
        long last = 257 + 17;
        long above = (31 * left + 17 * right + 3) % 1000003;
        Check.same("one left over goes up as it is", x.rootOf(4), (31 * above + 17 * last + 3) % 1000003);
        Check.fails("rootOf(5)", x, INDEX, () -> x.rootOf(5));
        Check.fails("rootOf(-1)", x, INDEX, () -> x.rootOf(-1));
    }

    private static void promise65Proves() {
        Patchferry x = new Patchferry();
        int[] text = Check.rising(0, 30);
        int[] mirror = text.clone();
        mirror[9] = 200;
        Check.put(x, text);
        Check.put(x, mirror);
        Check.put(x, Check.rising(0, 32));
        Check.put(x, Check.rising(0, 33));
        Check.put(x);
        Check.put(x, 1, 2);
        Check.isTrue("itself", x.proves(0, 0, 3));
        Check.isTrue("proves(0, 1, 0)", x.proves(0, 1, 0));
        Check.isFalse("proves(0, 1, 1)", x.proves(0, 1, 1));
        Check.isTrue("proves(0, 1, 3)", x.proves(0, 1, 3));
        Check.isFalse("a longer last leaf", x.proves(0, 2, 3));
        Check.isTrue("a leaf ahead of it", x.proves(0, 2, 2));
        Check.isFalse("nothing and two bytes", x.proves(4, 5, 0));
        Check.isTrue("nothing and nothing", x.proves(4, 4, 0));
        Check.fails("another number of leaves", x, UNSUPPORTED, () -> x.proves(0, 3, 0));
        Check.fails("no leaf, another number of them", x, INDEX, () -> x.proves(0, 3, 4));
        Check.fails("a leaf of the mirror only", x, INDEX, () -> x.proves(2, 3, 4));
        Check.fails("proves(0, 1, 4)", x, INDEX, () -> x.proves(0, 1, 4));
        Check.fails("proves(0, 1, -1)", x, INDEX, () -> x.proves(0, 1, -1));
        Check.fails("proves(6, 0, 0)", x, INDEX, () -> x.proves(6, 0, 0));
        Check.fails("proves(0, 6, 0)", x, INDEX, () -> x.proves(0, 6, 0));
        Check.fails("proves(4, 4, 1)", x, INDEX, () -> x.proves(4, 4, 1));
    }

    private static void promise66Liar() {
        Patchferry x = new Patchferry();
        int[] text = Check.rising(0, 200);
        int[] mirror = text.clone();
        mirror[199] = 0;
        int[] other = mirror.clone();
        other[80] = 3;
        Check.put(x, text);
        Check.put(x, mirror);
        Check.put(x, other);
        Check.put(x, 1);
        Check.put(x);
        Check.same("liar of itself", x.liar(0, 0), -1);
        Check.same("the last leaf", x.liar(0, 1), 24);
        Check.same("the first one of two", x.liar(0, 2), 10);
        Check.same("of nothing", x.liar(4, 4), -1);
        Check.same("nothing and one byte", x.liar(4, 3), 0);
        Check.fails("another number of leaves", x, UNSUPPORTED, () -> x.liar(0, 3));
        Check.fails("liar(5, 3)", x, INDEX, () -> x.liar(5, 3));
        Check.fails("liar(0, -1)", x, INDEX, () -> x.liar(0, -1));
    }

    private static void manyTrees() {
        Dice dice = new Dice(13);
        for (int round = 0; round < 400; round++) {
            Patchferry x = new Patchferry();
            int[] text = dice.mixed(200);
            int[] mirror = text.clone();
            for (int changes = dice.below(3); changes > 0 && mirror.length > 0; changes--) {
                mirror[dice.below(mirror.length)] = dice.below(256);
            }
            Check.put(x, text);
            Check.put(x, mirror);
            Check.same("rootOf", x.rootOf(0), Plain.root(Plain.leaves(text)));
            int liar = -1;
            for (int leaf = Plain.leaves(text).size() - 1; leaf >= 0; leaf--) {
                boolean due = Plain.proves(text, mirror, leaf);
                Check.same("proves", x.proves(0, 1, leaf) ? 1 : 0, due ? 1 : 0);
                liar = due ? liar : leaf;
            }
            Check.same("liar", x.liar(0, 1), liar);
        }
    }
}
