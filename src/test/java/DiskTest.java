import java.util.List;
import java.util.NoSuchElementException;

/** Promises 47 to 56. */
public final class DiskTest {
    private static final Class<IndexOutOfBoundsException> INDEX = IndexOutOfBoundsException.class;
    private static final Class<IllegalArgumentException> ARGUMENT = IllegalArgumentException.class;
    private static final Class<IllegalStateException> STATE = IllegalStateException.class;
    private static final Class<UnsupportedOperationException> UNSUPPORTED = UnsupportedOperationException.class;
    private static final Class<NoSuchElementException> NONE = NoSuchElementException.class;

    public static void main(String[] args) {
        emptyDisk();
        promise47Load();
        promise48SetCut();
        promises49To53Lay();
        savedCopies();
        lengths();
        refused();
        nothingToDo();
        manyLaid();
        Check.end("DiskTest");
    }

    private static int[] disk(Patchferry x) {
        int[] bytes = new int[x.diskLength()];
        for (int k = 0; k < bytes.length; k++) {
            bytes[k] = x.onDisk(k);
        }
        return bytes;
    }

    private static void emptyDisk() {
        Patchferry x = new Patchferry();
        Check.same("diskLength()", x.diskLength(), 0);
        Check.isTrue("isWhole()", x.isWhole());
        Check.fails("onDisk(0)", x, INDEX, () -> x.onDisk(0));
        Check.fails("savedBytes()", x, NONE, x::savedBytes);
        Check.fails("orderAt(0)", x, INDEX, () -> x.orderAt(0));
        Check.fails("goOn()", x, STATE, x::goOn);
        Check.fails("isOn(0)", x, INDEX, () -> x.isOn(0));
        Check.put(x);
        Check.put(x, 1, 2, 3);
        Check.isTrue("isOn nothing", x.isOn(0));
        x.make(0, 1);
        Check.same("lay over the first disk", x.lay(0), 1);
        Check.isTrue("isOn(1)", x.isOn(1));
    }

    private static void promise47Load() {
        Patchferry x = new Patchferry();
        Check.put(x, 1, 2, 3);
        Check.put(x, 4, 5);
        Check.put(x);
        Check.same("load(0)", x.load(0), 3);
        Check.same("the disk", disk(x), new int[] {1, 2, 3});
        Check.isTrue("isOn(0)", x.isOn(0));
        Check.isFalse("isOn(1)", x.isOn(1));
        Check.same("load(1)", x.load(1), 2);
        Check.same("the disk", disk(x), new int[] {4, 5});
        Check.fails("onDisk(2)", x, INDEX, () -> x.onDisk(2));
        Check.fails("onDisk(-1)", x, INDEX, () -> x.onDisk(-1));
        Check.fails("load(3)", x, INDEX, () -> x.load(3));
        Check.fails("load(-1)", x, INDEX, () -> x.load(-1));
        x.make(1, 0);
        x.setCut(0);
        x.lay(0);
        Check.isFalse("half done", x.isWhole());
        x.setCut(7);
        x.load(0);
        Check.isTrue("a patch begun is gone", x.isWhole());
        Check.fails("goOn() behind load", x, STATE, x::goOn);
        Check.fails("savedBytes() behind load", x, NONE, x::savedBytes);
        Check.fails("orderAt(0) behind load", x, INDEX, () -> x.orderAt(0));
        Check.same("the cut stays", x.setCut(-1), 7);
        Check.same("load of nothing", x.load(2), 0);
    }

    private static void promise48SetCut() {
        Patchferry x = new Patchferry();
        Check.same("setCut(0)", x.setCut(0), -1);
        Check.same("setCut(10)", x.setCut(10), 0);
        Check.fails("setCut(11)", x, ARGUMENT, () -> x.setCut(11));
        Check.fails("setCut(-2)", x, ARGUMENT, () -> x.setCut(-2));
        Check.same("setCut(-1)", x.setCut(-1), 10);
        Check.same("setCut(1)", x.setCut(1), -1);
        Check.fails("goOn() of none", x, STATE, x::goOn);
        Check.fails("lay(0) of none", x, INDEX, () -> x.lay(0));
        Check.same("what is refused leaves the cut", x.setCut(1), 1);
    }

    private static void promises49To53Lay() {
        Patchferry x = new Patchferry();
        int[] base = Check.rising(0, 30);
        int[] young = Check.join(Check.rising(20, 10), new int[] {99}, Check.rising(15, 5), new int[] {98, 97});
        Check.put(x, base);
        Check.put(x, young);
        x.make(0, 1);
        Check.same("text", Check.text(x, 0), "c20+10 x1 c15+5 x2");
        x.load(0);
        x.setCut(2);
        Check.same("lay(0)", x.lay(0), 2);
        Check.isFalse("isWhole()", x.isWhole());
        Check.same("the cut is over", x.setCut(0), -1);
        int[] order = {0, 1, 2, 3};
        for (int k = 0; k < 4; k++) {
            Check.same("orderAt(" + k + ")", x.orderAt(k), order[k]);
        }
        Check.fails("orderAt(4)", x, INDEX, () -> x.orderAt(4));
        Check.fails("orderAt(-1)", x, INDEX, () -> x.orderAt(-1));
        Check.same("savedBytes()", x.savedBytes(), 0);
        Check.same("half done", disk(x), Check.join(Check.rising(20, 10), new int[] {99}, Check.rising(11, 19)));
        Check.fails("lay(0) over a half done one", x, STATE, () -> x.lay(0));
        Check.fails("lay(1) of none", x, INDEX, () -> x.lay(1));
        Check.same("goOn() for no step", x.goOn(), 0);
        Check.same("goOn()", x.goOn(), 2);
        Check.isTrue("isWhole()", x.isWhole());
        Check.isTrue("isOn(1)", x.isOn(1));
        Check.fails("goOn() at its end", x, STATE, x::goOn);
        Check.same("orderAt(3) stays", x.orderAt(3), 3);
        Check.isTrue("isSound()", x.isSound());
    }

    private static void savedCopies() {
        Patchferry x = new Patchferry();
        Check.put(x, Check.join(Check.rising(0, 6), Check.rising(50, 10)));
        Check.put(x, Check.join(Check.rising(50, 10), Check.rising(0, 6)));
        x.make(0, 1);
        x.load(0);
        x.setCut(0);
        Check.same("lay for no step", x.lay(0), 0);
        Check.same("the shorter one is saved", x.savedBytes(), 6);
        Check.same("the longer one is done first", x.orderAt(0), 0);
        Check.same("nothing is written yet", disk(x), Check.read(x, 0));
        Check.same("goOn()", x.goOn(), 2);
        Check.isTrue("isOn(1)", x.isOn(1));
        Check.put(x, Check.join(Check.rising(0, 6), Check.rising(50, 6)));
        Check.put(x, Check.join(Check.rising(50, 6), Check.rising(0, 6)));
        x.make(2, 3);
        x.load(2);
        x.setCut(1);
        Check.same("lay(1)", x.lay(1), 1);
        Check.same("one of two is saved", x.savedBytes(), 6);
        // Saved is operation 0; operation 1 writes nothing that it must wait for.
        Check.same("of several the least sum", x.orderAt(0), 1);
        Check.same("half done", disk(x), Check.join(Check.rising(0, 6), Check.rising(0, 6)));
        x.goOn();
        Check.isTrue("isOn(3)", x.isOn(3));
        Check.put(x, Check.rising(3, 20));
        Check.put(x, Check.join(new int[] {90, 91}, Check.rising(3, 20)));
        x.make(4, 5);
        x.load(4);
        Check.same("a copy over itself waits for none", x.lay(2), 2);
        Check.same("nothing is saved", x.savedBytes(), 0);
        Check.same("the copy is first", x.orderAt(0), 1);
        Check.isTrue("isOn(5)", x.isOn(5));
    }

    private static void lengths() {
        Patchferry x = new Patchferry();
        Check.put(x, Check.rising(0, 10));
        Check.put(x, Check.join(Check.rising(0, 10), Check.row(77, 5), Check.rising(0, 4)));
        x.make(0, 1);
        x.make(1, 0);
        x.load(0);
        x.setCut(1);
        x.lay(0);
        Check.same("longer in between", x.diskLength(), 19);
        Check.same("the extra bytes are done first", disk(x)[12], 77);
        Check.same("0 where none was written yet", disk(x)[17], 0);
        Check.isFalse("isOn the old one", x.isOn(0));
        x.goOn();
        Check.same("at the end", x.diskLength(), 19);
        x.setCut(0);
        x.lay(1);
        Check.same("not shorter in between", x.diskLength(), 19);
        x.goOn();
        Check.same("as long as the new file", x.diskLength(), 10);
        Check.isTrue("isOn(0)", x.isOn(0));
    }

    private static void refused() {
        Patchferry x = new Patchferry();
        int[] eleven = new int[0];
        int[] ten = new int[0];
        for (int k = 0; k < 6; k++) {
            ten = Check.join(ten, k == 0 ? ten : new int[] {200 + k}, k == 0 ? ten : Check.rising(20 * k, 6));
        }
        eleven = Check.join(ten, new int[] {250});
        Check.put(x, Check.rising(0, 200));
        Check.put(x, ten);
        Check.put(x, eleven);
        x.make(0, 1);
        x.make(0, 2);
        x.make(1, 0);
        Check.same("operations", x.operations(0), 10);
        Check.same("operations", x.operations(1), 11);
        x.load(0);
        Check.fails("lay of 11 operations", x, UNSUPPORTED, () -> x.lay(1));
        Check.fails("lay of another base", x, UNSUPPORTED, () -> x.lay(2));
        Check.fails("lay(3)", x, INDEX, () -> x.lay(3));
        Check.fails("lay(-1)", x, INDEX, () -> x.lay(-1));
        x.setCut(9);
        Check.same("lay of 10 operations", x.lay(0), 9);
        Check.fails("half done, and 11 operations", x, STATE, () -> x.lay(1));
        Check.same("goOn()", x.goOn(), 1);
        Check.fails("lay again", x, UNSUPPORTED, () -> x.lay(0));
        Check.isTrue("isOn(1)", x.isOn(1));
        x.setCut(10);
        x.load(0);
        Check.same("a cut behind the last operation", x.lay(0), 10);
        Check.isTrue("isWhole()", x.isWhole());
        Check.same("the cut is over", x.setCut(-1), -1);
    }

    private static void nothingToDo() {
        Patchferry x = new Patchferry();
        Check.put(x, 1, 2, 3);
        Check.put(x);
        x.make(0, 1);
        x.load(0);
        x.setCut(0);
        Check.same("lay of no operations", x.lay(0), 0);
        Check.isTrue("it is at its end", x.isWhole());
        Check.same("diskLength()", x.diskLength(), 0);
        Check.same("savedBytes()", x.savedBytes(), 0);
        Check.fails("orderAt(0)", x, INDEX, () -> x.orderAt(0));
        Check.same("the cut is over", x.setCut(-1), -1);
        Check.fails("goOn()", x, STATE, x::goOn);
    }

    private static void manyLaid() {
        Dice dice = new Dice(11);
        int laid = 0;
        int saved = 0;
        for (int round = 0; round < 2500; round++) {
            Patchferry x = new Patchferry();
            int[] old = dice.below(3) == 0 ? dice.mixed(120) : dice.bytes(dice.below(200), 256, 0);
            int[] young = dice.altered(old);
            Check.put(x, old);
            Check.put(x, young);
            x.make(0, 1);
            x.load(0);
            List<Plain.Op> ops = Plain.draw(old, young);
            if (ops.size() > 10) {
                Check.fails("lay", x, UNSUPPORTED, () -> x.lay(0));
                continue;
            }
            Plain.Plan plan = Plain.plan(ops);
            laid++;
            saved += plan.bytes() > 0 ? 1 : 0;
            layBitByBit(dice, x, ops, plan, old, young);
        }
        Check.isTrue("many laid: " + laid, laid > 1500);
        Check.isTrue("many saved: " + saved, saved > 100);
    }

    private static void layBitByBit(Dice dice, Patchferry x, List<Plain.Op> ops, Plain.Plan plan, int[] old, int[] young) {
        int[] due = java.util.Arrays.copyOf(old, Math.max(old.length, young.length));
        int done = 0;
        boolean isBegun = false;
        while (!isBegun || done < ops.size()) {
            int cut = dice.below(4) - 1;
            x.setCut(cut);
            int steps = cut < 0 ? ops.size() - done : Math.min(cut, ops.size() - done);
            Check.same("operations done", isBegun ? x.goOn() : x.lay(0), steps);
            isBegun = true;
            for (int k = 0; k < steps; k++) {
                int op = plan.order().get(done + k);
                int begin = ops.subList(0, op).stream().mapToInt(other -> other.adds().length).sum();
                System.arraycopy(young, begin, due, begin, ops.get(op).adds().length);
            }
            done += steps;
            Check.same("disk", disk(x), done == ops.size() ? young : due);
            Check.same("savedBytes", x.savedBytes(), plan.bytes());
            Check.same("isWhole", x.isWhole() ? 1 : 0, done == ops.size() ? 1 : 0);
            Check.isTrue("isSound", x.isSound());
        }
        for (int k = 0; k < ops.size(); k++) {
            Check.same("orderAt", x.orderAt(k), plan.order().get(k));
        }
    }
}
