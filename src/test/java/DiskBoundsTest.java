import java.util.Arrays;
import java.util.NoSuchElementException;

/** Each sentence of promises 47 to 56 and of "In place" that names a boundary: at it, below it, above it. */
public final class DiskBoundsTest {
    private static final Class<IllegalArgumentException> ARGUMENT = IllegalArgumentException.class;
    private static final Class<IllegalStateException> STATE = IllegalStateException.class;
    private static final Class<IndexOutOfBoundsException> INDEX = IndexOutOfBoundsException.class;
    private static final Class<UnsupportedOperationException> UNSUPPORTED = UnsupportedOperationException.class;
    private static final Class<NoSuchElementException> NONE = NoSuchElementException.class;
    private static final int[] BASE = Check.rising(0, 60);

    public static void main(String[] args) {
        aDiskHasBytesNoneAtFirst();
        loadedInPlaceOfAll();
        thePowerIs0To10OrNone();
        atMost10Operations();
        theDiskHasItsBase();
        thePowerLastsForNoStep();
        thePowerLastsForAsManyAsThereAre();
        thePowerLastsForMore();
        thePowerIsToldForTheNextTimeAlone();
        oneHasBeenBegunAndIsNotAtItsEnd();
        noOperations();
        aDiskThatGrows();
        aDiskThatShrinks();
        aDiskThatStaysAsLong();
        aCopyThatReadsTheFirstOrTheLastByte();
        itselfAside();
        theFewestBytesAreSaved();
        theLeastSumOfSeveral();
        theIndexInTheOrder();
        aPlaceOnTheDisk();
        justTheBytesOfAFile();
        Check.end("DiskBoundsTest");
    }

    private static int[] disk(Patchferry x) {
        int[] bytes = new int[x.diskLength()];
        for (int k = 0; k < bytes.length; k++) {
            bytes[k] = x.onDisk(k);
        }
        return bytes;
    }

    private static int[] part(int from, int to) {
        return Arrays.copyOfRange(BASE, from, to);
    }

    /** Files 0 and 1, patch 0 between them, and the base on the disk. */
    private static Patchferry loaded(int[] base, int... young) {
        Patchferry x = new Patchferry();
        Check.put(x, base);
        Check.put(x, young);
        x.make(0, 1);
        x.load(0);
        return x;
    }

    /** Three operations, which are done in their order: c20+10 x2 c40+5. */
    private static Patchferry three() {
        return loaded(BASE, Check.join(part(20, 30), new int[] {201, 202}, part(40, 45)));
    }

    private static void aDiskHasBytesNoneAtFirst() {
        Patchferry x = new Patchferry();
        Check.same("diskLength()", x.diskLength(), 0);
        Check.fails("onDisk(0)", x, INDEX, () -> x.onDisk(0));
        Check.isTrue("isWhole()", x.isWhole());
        Check.fails("savedBytes()", x, NONE, x::savedBytes);
        Check.fails("orderAt(0)", x, INDEX, () -> x.orderAt(0));
        Check.fails("goOn()", x, STATE, x::goOn);
        Check.put(x);
        Check.put(x, 0);
        Check.isTrue("it is an empty file", x.isOn(0));
        Check.isFalse("it is no file of one byte", x.isOn(1));
        x.make(0, 1);
        Check.same("an empty base is laid over", x.lay(0), 1);
        Check.same("savedBytes()", x.savedBytes(), 0);
        Check.isTrue("isOn(1)", x.isOn(1));
    }

    private static void loadedInPlaceOfAll() {
        Patchferry x = three();
        Check.put(x);
        Check.put(x, Check.rising(1, 200));
        x.setCut(2);
        x.lay(0);
        Check.same("load of an empty file", x.load(2), 0);
        Check.isTrue("the patch begun is gone", x.isWhole());
        Check.fails("goOn()", x, STATE, x::goOn);
        Check.fails("savedBytes()", x, NONE, x::savedBytes);
        Check.fails("orderAt(0)", x, INDEX, () -> x.orderAt(0));
        Check.same("diskLength()", x.diskLength(), 0);
        Check.same("load of 200", x.load(3), 200);
        Check.same("the disk", disk(x), Check.rising(1, 200));
        x.load(0);
        Check.same("lay", x.lay(0), 3);
        Check.same("savedBytes()", x.savedBytes(), 0);
        x.load(1);
        Check.fails("savedBytes() of one at its end", x, NONE, x::savedBytes);
        Check.fails("orderAt(0) of one at its end", x, INDEX, () -> x.orderAt(0));
    }

    private static void thePowerIs0To10OrNone() {
        Patchferry x = new Patchferry();
        Check.same("for all at first", x.setCut(-1), -1);
        Check.same("setCut(0)", x.setCut(0), -1);
        Check.same("setCut(1)", x.setCut(1), 0);
        Check.same("setCut(9)", x.setCut(9), 1);
        Check.same("setCut(10)", x.setCut(10), 9);
        for (int steps : new int[] {11, 12, -2, -3, Integer.MIN_VALUE, Integer.MAX_VALUE}) {
            Check.fails("setCut(" + steps + ")", x, ARGUMENT, () -> x.setCut(steps));
        }
        Check.same("setCut(-1)", x.setCut(-1), 10);
    }

    private static void atMost10Operations() {
        int[] nine = {99};
        for (int k = 1; k <= 4; k++) {
            nine = Check.join(nine, part(12 * k, 12 * k + 6), new int[] {100 + k});
        }
        int[] ten = Check.join(nine, part(0, 6));
        int[] eleven = Check.join(ten, new int[] {98});
        for (int[] young : new int[][] {nine, ten}) {
            Patchferry x = loaded(BASE, young);
            int many = x.operations(0);
            Check.same("operations", many, young == nine ? 9 : 10);
            Check.same("lay", x.lay(0), many);
            Check.isTrue("isOn(1)", x.isOn(1));
        }
        Patchferry x = loaded(BASE, eleven);
        Check.same("operations", x.operations(0), 11);
        Check.fails("lay of 11", x, UNSUPPORTED, () -> x.lay(0));
        Check.isTrue("the disk stays", x.isOn(0) && x.isWhole());
    }

    private static void theDiskHasItsBase() {
        Patchferry x = three();
        int[] last = BASE.clone();
        last[59] = 99;
        Check.put(x, BASE);
        Check.put(x, last);
        Check.put(x, part(0, 59));
        Check.put(x, Check.rising(0, 61));
        Check.put(x);
        for (int file = 3; file < 7; file++) {
            x.load(file);
            Check.fails("lay over file " + file, x, UNSUPPORTED, () -> x.lay(0));
        }
        x.load(2);
        Check.same("lay over another file with the same bytes", x.lay(0), 3);
        Check.fails("lay over what it has made", x, UNSUPPORTED, () -> x.lay(0));
        x.make(1, 0);
        Check.same("lay of the next one", x.lay(1), x.operations(1));
        Check.isTrue("isOn(0)", x.isOn(0));
    }

    private static void thePowerLastsForNoStep() {
        Patchferry x = three();
        x.setCut(0);
        Check.same("lay", x.lay(0), 0);
        Check.isFalse("isWhole()", x.isWhole());
        Check.same("nothing is written", disk(x), BASE);
        Check.same("savedBytes()", x.savedBytes(), 0);
        Check.same("orderAt(2)", x.orderAt(2), 2);
        x.setCut(0);
        Check.same("goOn", x.goOn(), 0);
        Check.isFalse("isWhole()", x.isWhole());
        x.setCut(1);
        Check.same("goOn", x.goOn(), 1);
        Check.same("one is written", disk(x), Check.join(part(20, 30), part(10, 60)));
        Check.same("goOn for all that is left", x.goOn(), 2);
        Check.isTrue("isOn(1)", x.isOn(1));
    }

    private static void thePowerLastsForAsManyAsThereAre() {
        Patchferry x = three();
        x.setCut(2);
        Check.same("lay for one less", x.lay(0), 2);
        Check.isFalse("isWhole()", x.isWhole());
        x.setCut(1);
        Check.same("goOn for as many as are left", x.goOn(), 1);
        Check.isTrue("isWhole()", x.isWhole());
        Check.fails("goOn", x, STATE, x::goOn);
        x.load(0);
        x.setCut(3);
        Check.same("lay for as many", x.lay(0), 3);
        Check.isTrue("isWhole()", x.isWhole());
        Check.isTrue("isOn(1)", x.isOn(1));
        Check.fails("goOn", x, STATE, x::goOn);
    }

    private static void thePowerLastsForMore() {
        for (int cut : new int[] {4, 10, -1}) {
            Patchferry x = three();
            x.setCut(cut);
            Check.same("lay", x.lay(0), 3);
            Check.isTrue("isOn(1)", x.isOn(1));
            Check.same("the power is for all again", x.setCut(-1), -1);
            x.load(0);
            x.setCut(1);
            x.lay(0);
            x.setCut(cut);
            Check.same("goOn", x.goOn(), 2);
            Check.isTrue("isOn(1)", x.isOn(1));
            Check.same("the power is for all again", x.setCut(-1), -1);
        }
    }

    private static void thePowerIsToldForTheNextTimeAlone() {
        Patchferry x = three();
        x.setCut(1);
        Check.fails("no patch", x, INDEX, () -> x.lay(1));
        x.load(1);
        Check.fails("no base", x, UNSUPPORTED, () -> x.lay(0));
        Check.fails("none begun", x, STATE, x::goOn);
        x.load(0);
        Check.same("the next time", x.lay(0), 1);
        Check.same("told again", x.setCut(0), -1);
        Check.fails("one is begun", x, STATE, () -> x.lay(0));
        Check.same("the next time", x.goOn(), 0);
        Check.same("then for all", x.goOn(), 2);
        Check.same("it was for all", x.setCut(5), -1);
        Check.same("told, not used", x.setCut(-1), 5);
    }

    private static void oneHasBeenBegunAndIsNotAtItsEnd() {
        Patchferry x = three();
        Check.fails("goOn() of none", x, STATE, x::goOn);
        x.setCut(2);
        x.lay(0);
        Check.isFalse("isWhole()", x.isWhole());
        Check.fails("lay", x, STATE, () -> x.lay(0));
        Check.fails("lay of no patch", x, INDEX, () -> x.lay(1));
        x.setCut(0);
        x.goOn();
        Check.fails("lay", x, STATE, () -> x.lay(0));
        x.goOn();
        Check.isTrue("isWhole()", x.isWhole());
        Check.fails("goOn() at its end", x, STATE, x::goOn);
        Check.fails("lay over another base now", x, UNSUPPORTED, () -> x.lay(0));
    }

    private static void noOperations() {
        for (int cut : new int[] {-1, 0, 1}) {
            Patchferry x = loaded(BASE);
            x.setCut(cut);
            Check.same("lay of no operations", x.lay(0), 0);
            Check.isTrue("it is at its end", x.isWhole());
            Check.same("diskLength()", x.diskLength(), 0);
            Check.same("savedBytes()", x.savedBytes(), 0);
            Check.fails("orderAt(0)", x, INDEX, () -> x.orderAt(0));
            Check.fails("goOn()", x, STATE, x::goOn);
            Check.same("the power is for all again", x.setCut(-1), -1);
        }
        Patchferry y = loaded(new int[0]);
        Check.same("nothing over nothing", y.lay(0), 0);
        Check.isTrue("isOn(1)", y.isOn(1) && y.isWhole());
    }

    private static void aDiskThatGrows() {
        int[] young = Check.join(BASE, new int[] {201}, part(0, 5));
        Patchferry x = loaded(BASE, young);
        Check.same("text", Check.text(x, 0), "c0+60 x1 c0+5");
        x.setCut(0);
        x.lay(0);
        Check.same("as long as the new file", x.diskLength(), 66);
        Check.same("0 where none was written yet", disk(x), Check.join(BASE, new int[6]));
        Check.fails("onDisk(66)", x, INDEX, () -> x.onDisk(66));
        Check.isFalse("isOn(0)", x.isOn(0));
        x.setCut(1);
        x.goOn();
        Check.same("first, for it writes what the last one reads", x.orderAt(0), 1);
        Check.same("one is written", disk(x), Check.join(BASE, new int[] {201}, new int[5]));
        x.goOn();
        Check.same("at the end", disk(x), young);
        Patchferry y = loaded(new int[0], Check.rising(0, 200));
        y.setCut(0);
        y.lay(0);
        Check.same("from nothing to 200", disk(y), new int[200]);
        y.goOn();
        Check.isTrue("isOn(1)", y.isOn(1));
    }

    private static void aDiskThatShrinks() {
        Patchferry x = three();
        x.setCut(2);
        x.lay(0);
        Check.same("as long as the old file", x.diskLength(), 60);
        Check.same("two are written", disk(x), Check.join(part(20, 30), new int[] {201, 202}, part(12, 60)));
        x.goOn();
        Check.same("as long as the new file", x.diskLength(), 17);
        Check.fails("onDisk(17)", x, INDEX, () -> x.onDisk(17));
        Check.isTrue("isOn(1)", x.isOn(1));
        x.make(1, 0);
        x.setCut(0);
        x.lay(1);
        Check.same("and grows again, with 0 there", disk(x), Arrays.copyOf(Check.read(x, 1), 60));
        x.goOn();
        Check.isTrue("isOn(0)", x.isOn(0));
    }

    private static void aDiskThatStaysAsLong() {
        Patchferry x = loaded(BASE, Check.join(part(30, 60), part(0, 30)));
        x.setCut(1);
        Check.same("lay", x.lay(0), 1);
        Check.same("diskLength()", x.diskLength(), 60);
        x.goOn();
        Check.same("diskLength()", x.diskLength(), 60);
        Check.isTrue("isOn(1)", x.isOn(1));
    }

    private static void order(String due, int saved, int... young) {
        Patchferry x = loaded(BASE, young);
        String text = Check.text(x, 0);
        Check.same("lay of " + text, x.lay(0), x.operations(0));
        StringBuilder order = new StringBuilder();
        for (int k = 0; k < x.operations(0); k++) {
            order.append(x.orderAt(k));
        }
        Check.same("order of " + text, order.toString(), due);
        Check.same("saved of " + text, x.savedBytes(), saved);
        Check.isTrue("what " + text + " makes", x.isOn(1));
    }

    /** The extra bytes are written to 6 up to 9; the first operation waits if the last one reads from 0 up to 5. */
    private static void aCopyThatReadsTheFirstOrTheLastByte() {
        int[] head = Check.join(part(20, 26), new int[] {201, 202, 203, 204});
        order("120", 0, Check.join(head, part(2, 6)));
        order("201", 0, Check.join(head, part(3, 7)));
        order("021", 0, Check.join(head, part(6, 10)));
        order("021", 0, Check.join(head, part(9, 13)));
        order("012", 0, Check.join(head, part(10, 14)));
        order("201", 0, Check.join(head, part(5, 9)));
    }

    private static void itselfAside() {
        order("0", 0, BASE);
        order("0", 0, part(1, 60));
        order("10", 0, Check.join(new int[] {201}, BASE));
        order("10", 0, Check.join(new int[] {201}, part(0, 10)));
        order("01", 0, Check.join(new int[] {201}, part(1, 10)));
        int[] changed = BASE.clone();
        changed[20] = 201;
        order("0", 0, changed);
    }

    private static void theFewestBytesAreSaved() {
        order("01", 9, Check.join(part(9, 19), part(0, 9)));
        order("10", 9, Check.join(part(10, 19), part(0, 10)));
        order("10", 10, Check.join(part(10, 20), part(0, 10)));
        order("01", 0, Check.join(part(10, 20), part(21, 30)));
        order("201", 9, Check.join(part(16, 20), part(11, 16), part(0, 10)));
        order("012", 9, Check.join(part(15, 20), part(10, 15), part(0, 9)));
    }

    /** Saved may be the first two, of 5 and 5 bytes, by 1 and 2, or the third one, of 10 bytes, by 4. */
    private static void theLeastSumOfSeveral() {
        order("201", 10, Check.join(part(15, 20), part(10, 15), part(0, 10)));
        // Of two copies that read each other's place, the first one by 1, the second one by 2.
        order("10", 8, Check.join(part(8, 16), part(0, 8)));
        // With one ahead that waits for none, the first one by 2, the second one by 4.
        order("021", 8, Check.join(new int[] {201}, part(9, 17), part(1, 9)));
    }

    private static void theIndexInTheOrder() {
        Patchferry x = three();
        x.setCut(0);
        x.lay(0);
        for (int round = 0; round < 2; round++) {
            for (int k = 0; k < 3; k++) {
                Check.same("orderAt(" + k + ")", x.orderAt(k), k);
            }
            for (int index : new int[] {3, 4, -1, Integer.MIN_VALUE, Integer.MAX_VALUE}) {
                Check.fails("orderAt(" + index + ")", x, INDEX, () -> x.orderAt(index));
            }
            if (round == 0) {
                x.goOn();
            }
        }
    }

    private static void aPlaceOnTheDisk() {
        Patchferry x = loaded(Check.rising(0, 200), Check.rising(0, 200));
        Check.same("onDisk(0)", x.onDisk(0), 0);
        Check.same("onDisk(1)", x.onDisk(1), 1);
        Check.same("onDisk(199)", x.onDisk(199), 199);
        for (int place : new int[] {200, 201, -1, Integer.MIN_VALUE, Integer.MAX_VALUE}) {
            Check.fails("onDisk(" + place + ")", x, INDEX, () -> x.onDisk(place));
        }
    }

    private static void justTheBytesOfAFile() {
        Patchferry x = loaded(new int[] {1, 2, 3}, 1, 2, 3);
        Check.put(x, 1, 2, 4);
        Check.put(x, 1, 2);
        Check.put(x, 1, 2, 3, 0);
        Check.put(x);
        Check.isTrue("isOn(0)", x.isOn(0));
        Check.isTrue("isOn(1)", x.isOn(1));
        Check.isFalse("the last byte unlike", x.isOn(2));
        Check.isFalse("one byte less", x.isOn(3));
        Check.isFalse("one byte more", x.isOn(4));
        Check.isFalse("an empty file", x.isOn(5));
        x.load(5);
        Check.isTrue("an empty file", x.isOn(5));
        Check.isFalse("another one", x.isOn(0));
    }
}
