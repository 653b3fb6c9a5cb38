import java.util.ArrayList;
import java.util.List;
import java.util.NoSuchElementException;

/** Promises 24 and 25. */
public final class MergeTest {
    private static final Class<IllegalStateException> STATE = IllegalStateException.class;
    private static final Class<IndexOutOfBoundsException> INDEX = IndexOutOfBoundsException.class;
    private static final Class<UnsupportedOperationException> UNSUPPORTED = UnsupportedOperationException.class;
    private static final Class<NoSuchElementException> NONE = NoSuchElementException.class;

    public static void main(String[] args) {
        mergedEdits();
        sameEdits();
        clashes();
        refused();
        composedPatches();
        tooLong();
        manyMerges();
        Check.end("MergeTest");
    }

    private static int[] with(int[] bytes, int place, int value) {
        int[] other = bytes.clone();
        other[place] = value;
        return other;
    }

    /** The bytes with some of them replaced. */
    private static int[] instead(int[] bytes, int from, int to, int... parts) {
        int[] head = java.util.Arrays.copyOf(bytes, from);
        return Check.join(head, parts, java.util.Arrays.copyOfRange(bytes, to, bytes.length));
    }

    private static Patchferry patched(int[] base, int[]... others) {
        Patchferry x = new Patchferry();
        Check.put(x, base);
        for (int[] other : others) {
            x.make(0, Check.put(x, other));
        }
        return x;
    }

    private static void mergedEdits() {
        int[] base = Check.rising(0, 60);
        int[] mine = instead(with(base, 10, 200), 30, 32, 201, 202, 203);
        int[] theirs = instead(with(base, 20, 210), 40, 40, 211, 212);
        Patchferry x = patched(base, mine, theirs, instead(base, 0, 3), instead(base, 60, 60, 7, 7));
        Check.same("merge(0, 1)", x.merge(0, 1), 5);
        int[] due = instead(instead(with(with(base, 10, 200), 20, 210), 40, 40, 211, 212), 30, 32, 201, 202, 203);
        Check.same("merged", Check.read(x, 5), due);
        x.merge(1, 0);
        Check.isTrue("merged the other way round", x.isSame(5, 6));
        x.merge(2, 3);
        Check.same("at the beginning and the end", Check.read(x, 7), instead(instead(base, 60, 60, 7, 7), 0, 3));
    }

    private static void sameEdits() {
        int[] base = Check.rising(0, 60);
        int[] both = instead(with(base, 10, 200), 30, 32, 201, 202, 203);
        Patchferry x = patched(base, both, with(both, 50, 99), base);
        x.merge(0, 1);
        Check.same("same edits are taken once", Check.read(x, 4), with(both, 50, 99));
        x.merge(0, 0);
        Check.same("a patch with itself", Check.read(x, 5), both);
        x.merge(2, 0);
        Check.same("no edits", Check.read(x, 6), both);
        Patchferry y = patched(new int[0], new int[0], new int[] {4, 5});
        Check.same("merge over nothing", y.merge(0, 1), 3);
        Check.same("merged over nothing", Check.read(y, 3), new int[] {4, 5});
        y.merge(1, 1);
        Check.same("the same extra bytes over nothing", Check.read(y, 4), new int[] {4, 5});
    }

    private static void clashes() {
        int[] base = Check.rising(0, 60);
        Patchferry x = patched(base, with(base, 20, 99), with(base, 20, 98), with(base, 21, 97), with(base, 22, 96),
                instead(base, 20, 20, 1, 1), instead(base, 18, 26, 1, 1), with(with(base, 40, 9), 20, 98));
        Check.fails("clash() of none", x, NONE, x::clash);
        clash(x, 0, 1, 20);
        clash(x, 0, 2, 21);
        clash(x, 2, 3, 22);
        Check.same("one byte between", x.merge(0, 3), 8);
        clash(x, 0, 4, 20);
        clash(x, 2, 5, 21);
        clash(x, 5, 6, 20);
        clash(x, 6, 0, 20);
        Check.same("extra bytes with a byte between", x.merge(4, 2), 9);
        Check.same("clash() stays behind a merge", x.clash(), 20);
        x.make(0, Check.put(x, 4));
        x.make(0, Check.put(x, 5));
        clash(x, 7, 8, 0);
        clash(x, 7, 2, 21);
    }

    private static void clash(Patchferry x, int patch, int other, int due) {
        Check.fails("merge(" + patch + ", " + other + ")", x, UNSUPPORTED, () -> x.merge(patch, other));
        Check.same("clash() of " + patch + " and " + other, x.clash(), due);
        Check.fails("merge(" + other + ", " + patch + ")", x, UNSUPPORTED, () -> x.merge(other, patch));
        Check.same("clash() of " + other + " and " + patch, x.clash(), due);
    }

    private static void refused() {
        int[] base = Check.rising(0, 60);
        int[] back = Check.join(Check.rising(30, 10), Check.rising(10, 10));
        int[] lapping = Check.join(Check.rising(10, 10), new int[] {99}, Check.rising(19, 10));
        int[] next = Check.join(Check.rising(10, 10), new int[] {99}, Check.rising(20, 40));
        Patchferry x = patched(base, base, back, lapping, next);
        x.make(1, 0);
        x.make(2, 0);
        Check.fails("a copy goes back", x, UNSUPPORTED, () -> x.merge(0, 1));
        Check.fails("a copy laps", x, UNSUPPORTED, () -> x.merge(2, 0));
        Check.same("a copy just behind", x.merge(3, 0), 5);
        Check.same("merged", Check.read(x, 5), next);
        Check.same("another file with the same bytes as base", x.merge(0, 4), 6);
        Check.fails("not one base", x, UNSUPPORTED, () -> x.merge(0, 5));
        Check.fails("merge(6, 0)", x, INDEX, () -> x.merge(6, 0));
        Check.fails("merge(0, -1)", x, INDEX, () -> x.merge(0, -1));
        Check.fails("no clash", x, NONE, x::clash);
        x.make(0, Check.put(x, 4));
        x.make(0, Check.put(x, 5));
        while (x.files() < 24) {
            x.merge(0, 0);
        }
        Check.fails("merge with 24 files", x, STATE, () -> x.merge(0, 0));
        Check.fails("no clash yet", x, NONE, x::clash);
        Check.fails("a clash with 24 files", x, UNSUPPORTED, () -> x.merge(6, 7));
        Check.same("clash()", x.clash(), 0);
        Check.fails("a copy goes back with 24 files", x, UNSUPPORTED, () -> x.merge(0, 1));
        Check.same("clash() stays", x.clash(), 0);
    }

    /** Copies of composed patches may begin and end with a changed byte, and lie side by side. */
    private static void composedPatches() {
        int[] base = Check.rising(0, 40);
        int[] first = with(base, 12, 200);
        int[] second = Check.join(java.util.Arrays.copyOfRange(first, 0, 8), java.util.Arrays.copyOfRange(first, 12, 40));
        Patchferry x = new Patchferry();
        Check.put(x, base);
        Check.put(x, first);
        Check.put(x, second);
        Check.put(x, with(base, 30, 99));
        x.make(0, 1);
        x.make(1, 2);
        x.make(0, 3);
        x.compose(0, 1);
        Check.same("a copy that begins with a changed byte", Check.text(x, 3), "c0+8 c12+28!1");
        x.merge(3, 2);
        Check.same("merged", Check.read(x, 4), with(second, 26, 99));
        int[] side = with(base, 13, 201);
        x.make(0, Check.put(x, side));
        clash(x, 3, 4, 13);
    }

    private static void tooLong() {
        int[] base = Check.rising(0, 100);
        int[] mine = instead(base, 30, 30, Check.row(200, 60));
        int[] theirs = instead(base, 60, 60, Check.row(201, 41));
        Patchferry x = patched(base, mine, theirs, instead(base, 60, 60, Check.row(201, 40)));
        Check.fails("merge to 201 bytes", x, STATE, () -> x.merge(0, 1));
        Check.same("merge to 200 bytes", x.merge(0, 2), 4);
        Check.same("its length", x.length(4), 200);
        int[] few = Check.rising(0, 20);
        int[] much = instead(few, 4, 4, Check.row(200, 180));
        Patchferry y = patched(few, much, instead(few, 16, 16, Check.row(201, 180)), few);
        Check.fails("merge to 380 bytes", y, STATE, () -> y.merge(0, 1));
        Check.same("merge to 200 bytes with no edits", y.merge(0, 2), 4);
        Check.same("merged", Check.read(y, 4), much);
    }

    private static void manyMerges() {
        Dice dice = new Dice(5);
        int[] ends = new int[3];
        for (int round = 0; round < 2500; round++) {
            int[] base = dice.below(3) == 0 ? dice.mixed(80) : dice.bytes(dice.below(120), 256, 0);
            int[] mine = edited(dice, base);
            int[] theirs = dice.below(4) == 0 ? edited(dice, mine) : edited(dice, base);
            Patchferry x = patched(base, mine, theirs);
            ends[oneMerge(x, 0, 1, base, Plain.draw(base, mine), Plain.draw(base, theirs))]++;
        }
        Check.isTrue("many merged: " + ends[0], ends[0] > 400);
        Check.isTrue("many clashed: " + ends[1], ends[1] > 200);
        manyComposedMerges(dice);
    }

    private static void manyComposedMerges(Dice dice) {
        int[] ends = new int[3];
        for (int round = 0; round < 800; round++) {
            int[] base = dice.bytes(40 + dice.below(120), 256, 0);
            int[] middle = edited(dice, base);
            int[] mine = edited(dice, middle);
            int[] theirs = edited(dice, base);
            Patchferry x = patched(base, middle, theirs);
            Check.put(x, mine);
            x.make(1, 3);
            x.compose(0, 2);
            List<Plain.Op> composed = Plain.compose(Plain.draw(base, middle), Plain.draw(middle, mine));
            ends[oneMerge(x, 1, 3, base, Plain.draw(base, theirs), composed)]++;
        }
        Check.isTrue("many merged: " + ends[0], ends[0] > 50);
        Check.isTrue("many clashed: " + ends[1], ends[1] > 50);
    }

    /** Merges two patches; tells 0 for merged, 1 for a clash, 2 for refused for something else. */
    private static int oneMerge(Patchferry x, int patch, int other, int[] base, List<Plain.Op> mine, List<Plain.Op> theirs) {
        List<Plain.Edit> a = Plain.edits(base, mine);
        List<Plain.Edit> b = Plain.edits(base, theirs);
        if (a == null || b == null) {
            Check.fails("merge with a copy that goes back", x, UNSUPPORTED, () -> x.merge(patch, other));
            Check.fails("no clash", x, NONE, x::clash);
            return 2;
        }
        int clash = Plain.clash(a, b);
        if (clash >= 0) {
            Check.fails("merge with a clash", x, UNSUPPORTED, () -> x.merge(patch, other));
            Check.same("clash", x.clash(), clash);
            return 1;
        }
        int[] due = Plain.merged(base, a, b);
        if (due.length > 200) {
            Check.fails("merge to more than 200", x, STATE, () -> x.merge(patch, other));
            return 2;
        }
        Check.same("merged", Check.read(x, x.merge(patch, other)), due);
        return 0;
    }

    private static int[] edited(Dice dice, int[] base) {
        List<int[]> parts = new ArrayList<>();
        int place = 0;
        while (place < base.length) {
            int many = Math.min(base.length - place, 5 + dice.below(60));
            parts.add(java.util.Arrays.copyOfRange(base, place, place + many));
            place += many;
            int kind = dice.below(4);
            if (kind == 0) {
                place += dice.below(4);
            } else if (kind == 1) {
                parts.add(dice.bytes(dice.below(6), 256, 0));
            } else if (kind == 2 && place < base.length) {
                parts.add(dice.bytes(1, 256, 0));
                place++;
            }
        }
        int[] all = Check.join(parts.toArray(new int[0][]));
        return all.length > 200 ? java.util.Arrays.copyOf(all, 200) : all;
    }
}
