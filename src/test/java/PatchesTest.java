import java.util.Arrays;
import java.util.List;
import java.util.NoSuchElementException;

/** Promises 15 to 23 and 69. */
public final class PatchesTest {
    private static final Class<IllegalStateException> STATE = IllegalStateException.class;
    private static final Class<IndexOutOfBoundsException> INDEX = IndexOutOfBoundsException.class;
    private static final Class<UnsupportedOperationException> UNSUPPORTED = UnsupportedOperationException.class;

    public static void main(String[] args) {
        promise15Make();
        promises16To20Operations();
        promise21Bytes();
        promise22Apply();
        promise23Compose();
        promise69Share();
        manyPatches();
        manyChains();
        Check.end("PatchesTest");
    }

    private static void promise15Make() {
        Patchferry x = new Patchferry();
        Check.put(x, Check.rising(0, 20));
        Check.put(x, Check.rising(0, 3));
        Check.put(x, Check.rising(0, 4));
        Check.put(x, 90, 5, 6, 7, 8, 9, 99, 11, 12, 91, 92);
        Check.same("make(0, 1)", x.make(0, 1), 0);
        Check.same("three bytes are no match", Check.text(x, 0), "x3");
        Check.same("make(0, 2)", x.make(0, 2), 1);
        Check.same("four bytes are one", Check.text(x, 1), "c0+4");
        Check.same("make(0, 3)", x.make(0, 3), 2);
        Check.same("a copy with its slack", Check.text(x, 2), "x1 c5+8!1 x2");
        Check.same("make(0, 0)", x.make(0, 0), 3);
        Check.same("the same file", Check.text(x, 3), "c0+20");
        Check.fails("make(0, 4)", x, INDEX, () -> x.make(0, 4));
        Check.fails("make(-1, 0)", x, INDEX, () -> x.make(-1, 0));
        for (int k = 4; k < 20; k++) {
            Check.same("make", x.make(1, 0), k);
        }
        Check.fails("the 21st patch", x, STATE, () -> x.make(0, 1));
        Check.fails("the 21st patch of no file", x, INDEX, () -> x.make(0, 9));
    }

    private static void promises16To20Operations() {
        Patchferry x = new Patchferry();
        Check.fails("operations of none", x, INDEX, () -> x.operations(0));
        Check.put(x, Check.rising(0, 130));
        Check.put(x, Check.join(Check.rising(110, 12), new int[] {200, 201}, Check.rising(3, 10), Check.row(222, 11)));
        Check.put(x);
        x.make(0, 1);
        x.make(0, 2);
        Check.same("text", Check.text(x, 0), "c110+12 x2 c3+10 x11");
        Check.same("operations(0)", x.operations(0), 4);
        Check.same("operations(1)", x.operations(1), 0);
        Check.same("text of no operation", Check.text(x, 1), "");
        Check.same("kindOf(0, 0)", x.kindOf(0, 0), 'c');
        Check.same("kindOf(0, 1)", x.kindOf(0, 1), 'x');
        Check.same("fromOf(0, 0)", x.fromOf(0, 0), 110);
        Check.same("fromOf(0, 2)", x.fromOf(0, 2), 3);
        Check.same("lengthOf(0, 0)", x.lengthOf(0, 0), 12);
        Check.same("lengthOf(0, 1)", x.lengthOf(0, 1), 2);
        Check.same("lengthOf(0, 3)", x.lengthOf(0, 3), 11);
        Check.same("signAt(0, 0)", x.signAt(0, 0), 'c');
        Check.same("signAt(0, 7)", x.signAt(0, 7), ' ');
        Check.same("signAt(0, 19)", x.signAt(0, 19), '1');
        Check.fails("operations(2)", x, INDEX, () -> x.operations(2));
        Check.fails("operations(-1)", x, INDEX, () -> x.operations(-1));
        Check.fails("kindOf(0, 4)", x, INDEX, () -> x.kindOf(0, 4));
        Check.fails("kindOf(1, 0)", x, INDEX, () -> x.kindOf(1, 0));
        Check.fails("kindOf(2, 0)", x, INDEX, () -> x.kindOf(2, 0));
        Check.fails("fromOf(0, 1)", x, NoSuchElementException.class, () -> x.fromOf(0, 1));
        Check.fails("fromOf(0, -1)", x, INDEX, () -> x.fromOf(0, -1));
        Check.fails("fromOf(0, 4)", x, INDEX, () -> x.fromOf(0, 4));
        Check.fails("fromOf(5, 1)", x, INDEX, () -> x.fromOf(5, 1));
        Check.fails("lengthOf(0, 4)", x, INDEX, () -> x.lengthOf(0, 4));
        Check.fails("lengthOf(-1, 0)", x, INDEX, () -> x.lengthOf(-1, 0));
        Check.fails("signAt(0, 20)", x, INDEX, () -> x.signAt(0, 20));
        Check.fails("signAt(0, -1)", x, INDEX, () -> x.signAt(0, -1));
        Check.fails("signAt(1, 0)", x, INDEX, () -> x.signAt(1, 0));
        Check.fails("signAt(2, 0)", x, INDEX, () -> x.signAt(2, 0));
    }

    private static void promise21Bytes() {
        Patchferry x = new Patchferry();
        Check.put(x, Check.rising(0, 200));
        Check.put(x);
        Check.put(x, Check.row(255, 127));
        Check.put(x, Check.row(255, 128));
        Check.put(x, Check.rising(63, 20));
        Check.put(x, Check.rising(64, 20));
        Check.put(x, Check.join(Check.rising(70, 20), Check.rising(26, 9)));
        Check.put(x, Check.join(Check.rising(70, 20), Check.rising(25, 9)));
        int[] changed = Check.rising(0, 30);
        changed[10] = 99;
        changed[20] = 98;
        Check.put(x, changed);
        int[] due = {8, 8 + 2 + 127, 8 + 3 + 128, 8 + 3, 8 + 4, 8 + 4 + 3, 8 + 4 + 4, 8 + 3 + 4};
        for (int k = 0; k < due.length; k++) {
            x.make(0, k + 1);
            Check.same("bytes(" + k + ") of " + Check.text(x, k), x.bytes(k), due[k]);
        }
        x.make(0, 0);
        Check.same("a length of 200", x.bytes(8), 8 + 4);
        Check.fails("bytes(9)", x, INDEX, () -> x.bytes(9));
        Check.fails("bytes(-1)", x, INDEX, () -> x.bytes(-1));
    }

    private static void promise22Apply() {
        Patchferry x = new Patchferry();
        Check.put(x, Check.rising(0, 20));
        Check.put(x, 4, 5, 6, 7, 8, 99, 10, 11, 1, 250);
        Check.put(x, Check.rising(0, 20));
        x.make(0, 1);
        Check.same("apply(0, 0)", x.apply(0, 0), 3);
        Check.same("apply to a like file", x.apply(0, 2), 4);
        Check.isTrue("what is made", x.isSame(1, 3) && x.isSame(1, 4));
        Check.fails("apply(0, 1)", x, UNSUPPORTED, () -> x.apply(0, 1));
        Check.fails("apply(1, 1)", x, INDEX, () -> x.apply(1, 1));
        Check.fails("apply(0, 5)", x, INDEX, () -> x.apply(0, 5));
        x.type(3);
        while (x.files() < 24) {
            x.apply(0, 0);
        }
        Check.fails("apply with 24 files", x, STATE, () -> x.apply(0, 0));
        Check.fails("apply to another base with 24 files", x, UNSUPPORTED, () -> x.apply(0, 1));
        Check.same("the buffer is not touched", x.type(4), 2);
    }

    private static void promise23Compose() {
        Patchferry x = new Patchferry();
        Check.put(x, Check.rising(0, 40));
        Check.put(x, Check.join(Check.rising(10, 10), new int[] {201, 202, 203}, Check.rising(20, 10)));
        Check.put(x, Check.join(new int[] {77}, Check.rising(12, 8), new int[] {201, 202, 203}, Check.rising(20, 5)));
        x.make(0, 1);
        x.make(1, 2);
        Check.same("first", Check.text(x, 0), "c10+10 x3 c20+10");
        Check.same("second", Check.text(x, 1), "x1 c2+16");
        Check.same("compose(0, 1)", x.compose(0, 1), 2);
        Check.same("composed", Check.text(x, 2), "x1 c12+8 x3 c20+5");
        Check.isTrue("what it makes", x.isSame(x.apply(2, 0), 2));
        Check.fails("compose(1, 0)", x, UNSUPPORTED, () -> x.compose(1, 0));
        Check.fails("compose(0, 3)", x, INDEX, () -> x.compose(0, 3));
        Check.fails("compose(-1, 1)", x, INDEX, () -> x.compose(-1, 1));
        for (int k = 3; k < 20; k++) {
            x.make(0, 1);
        }
        Check.fails("compose with 20 patches", x, STATE, () -> x.compose(0, 1));
        Check.fails("compose of another base with 20 patches", x, UNSUPPORTED, () -> x.compose(1, 0));
        composedChanges();
        composedExtras();
    }

    private static void composedChanges() {
        Patchferry x = new Patchferry();
        int[] first = Check.rising(0, 20);
        int[] second = first.clone();
        second[10] = 200;
        int[] third = first.clone();
        third[12] = 5;
        Check.put(x, first);
        Check.put(x, second);
        Check.put(x, third);
        x.make(0, 1);
        x.make(1, 2);
        x.make(1, 0);
        x.compose(0, 1);
        x.compose(0, 2);
        Check.same("one change taken back, one new", Check.text(x, 3), "c0+20!1");
        Check.same("a change taken back", Check.text(x, 4), "c0+20");
        Check.same("bytes of it", x.bytes(4), 11);
    }

    private static void composedExtras() {
        Patchferry x = new Patchferry();
        Check.put(x, 1);
        Check.put(x, 5, 6, 7, 8, 9, 10);
        Check.put(x, 8, 8, 8, 5, 6, 7, 8, 9, 10, 3, 3);
        x.make(0, 1);
        x.make(1, 2);
        x.compose(0, 1);
        Check.same("extra operations stay apart", Check.text(x, 2), "x3 x6 x2");
        Check.same("bytes of three of them", x.bytes(2), 8 + 6 + 11);
        Check.isTrue("what they make", x.isSame(x.apply(2, 0), 2));
    }

    private static void promise69Share() {
        Patchferry x = new Patchferry();
        Check.put(x, 1, 2, 3);
        Check.put(x);
        x.make(1, 0);
        x.make(0, 1);
        Check.same("share(0)", x.share(0), 13f / 3f);
        Check.fails("share of nothing", x, NoSuchElementException.class, () -> x.share(1));
        Check.fails("share(2)", x, INDEX, () -> x.share(2));
        Check.fails("share(-1)", x, INDEX, () -> x.share(-1));
    }

    private static void manyPatches() {
        Dice dice = new Dice(3);
        for (int round = 0; round < 1500; round++) {
            Patchferry x = new Patchferry();
            int[] old = dice.mixed(200);
            int[] young = dice.below(5) == 0 ? dice.mixed(200) : dice.altered(old);
            Check.put(x, old);
            Check.put(x, young);
            x.make(0, 1);
            compare(x, 0, old, young, Plain.draw(old, young));
            x.apply(0, 0);
            Check.same("applied", Check.read(x, 2), young);
        }
    }

    private static void compare(Patchferry x, int patch, int[] old, int[] young, List<Plain.Op> due) {
        Check.same("the oracle makes", Plain.made(old, due), young);
        Check.same("text", Check.text(x, patch), Plain.text(due));
        Check.same("bytes", x.bytes(patch), Plain.bytes(due));
        Check.same("operations", x.operations(patch), due.size());
        for (int k = 0; k < due.size(); k++) {
            Check.same("lengthOf", x.lengthOf(patch, k), due.get(k).adds().length);
            Check.same("kindOf", x.kindOf(patch, k), due.get(k).from() < 0 ? 'x' : 'c');
            if (due.get(k).from() >= 0) {
                Check.same("fromOf", x.fromOf(patch, k), due.get(k).from());
            }
        }
        if (young.length > 0) {
            Check.same("share", x.share(patch), (float) Plain.bytes(due) / (float) young.length);
        }
    }

    private static void manyChains() {
        Dice dice = new Dice(4);
        for (int round = 0; round < 800; round++) {
            Patchferry x = new Patchferry();
            int[] first = dice.mixed(200);
            int[] second = dice.altered(first);
            int[] third = dice.altered(second);
            Check.put(x, first);
            Check.put(x, second);
            Check.put(x, third);
            x.make(0, 1);
            x.make(1, 2);
            x.make(0, 2);
            Check.same("compose", x.compose(0, 1), 3);
            compare(x, 3, first, third, Plain.compose(Plain.draw(first, second), Plain.draw(second, third)));
            if (!Arrays.equals(second, first)) {
                Check.fails("compose of another base", x, UNSUPPORTED, () -> x.compose(0, 2));
            }
            x.apply(3, 0);
            Check.same("composed and applied", Check.read(x, 3), third);
        }
    }
}
