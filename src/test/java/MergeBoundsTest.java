import java.util.Arrays;
import java.util.NoSuchElementException;

/** Each sentence of promises 24, 25 and of "Merging" that names a boundary: at it, below it, above it. */
public final class MergeBoundsTest {
    private static final Class<IllegalStateException> STATE = IllegalStateException.class;
    private static final Class<UnsupportedOperationException> UNSUPPORTED = UnsupportedOperationException.class;
    private static final Class<NoSuchElementException> NONE = NoSuchElementException.class;
    private static final int[] BASE = Check.rising(0, 60);

    public static void main(String[] args) {
        changedBytesSideBySide();
        extraBytesAtOnePlace();
        extraBytesBesideAChangedByte();
        bytesLeftOutBesideOthers();
        bytesLeftOutAndExtraOnes();
        aheadOfTheFirstCopy();
        behindTheLastCopy();
        noCopyAtAll();
        anEmptyBase();
        thoseThatAreTheSame();
        sameOnesThatTouchOthers();
        theLowestPlaceOfSeveral();
        aCopyThatGoesBack();
        theyHaveNotOneBase();
        aFileOf200And201();
        whatClashTells();
        Check.end("MergeBoundsTest");
    }

    private static int[] changed(int... places) {
        int[] other = BASE.clone();
        for (int place : places) {
            other[place] = 200;
        }
        return other;
    }

    private static int[] instead(int from, int to, int... parts) {
        return Check.join(Arrays.copyOf(BASE, from), parts, Arrays.copyOfRange(BASE, to, BASE.length));
    }

    private static Patchferry patched(int[] base, int[]... others) {
        Patchferry x = new Patchferry();
        Check.put(x, base);
        for (int[] other : others) {
            x.make(0, Check.put(x, other));
        }
        return x;
    }

    private static void clash(int due, int[] base, int[] mine, int[] theirs) {
        Patchferry x = patched(base, mine, theirs);
        String what = Check.text(x, 0) + " and " + Check.text(x, 1);
        Check.fails("merge of " + what, x, UNSUPPORTED, () -> x.merge(0, 1));
        Check.same("clash of " + what, x.clash(), due);
        Check.fails("merge the other way round of " + what, x, UNSUPPORTED, () -> x.merge(1, 0));
        Check.same("clash of it", x.clash(), due);
    }

    private static void merged(int[] due, int[] base, int[] mine, int[] theirs) {
        Patchferry x = patched(base, mine, theirs);
        String what = Check.text(x, 0) + " and " + Check.text(x, 1);
        Check.same("merge of " + what, x.merge(0, 1), 3);
        Check.same("merged from " + what, Check.read(x, 3), due);
        Check.same("merge the other way round of " + what, x.merge(1, 0), 4);
        Check.same("merged from it", Check.read(x, 4), due);
        Check.fails("no clash of " + what, x, NONE, x::clash);
    }

    private static void changedBytesSideBySide() {
        int[] other = BASE.clone();
        other[20] = 201;
        clash(20, BASE, changed(20), other);
        clash(21, BASE, changed(20), changed(21));
        merged(changed(20, 22), BASE, changed(20), changed(22));
        clash(22, BASE, changed(10, 22), changed(15, 21));
        merged(changed(10, 15, 22, 25), BASE, changed(10, 22), changed(15, 25));
    }

    private static void extraBytesAtOnePlace() {
        clash(20, BASE, instead(20, 20, 201), instead(20, 20, 202));
        clash(20, BASE, instead(20, 20, 201), instead(20, 20, 201, 201));
        merged(instead(20, 20, 201), BASE, instead(20, 20, 201), instead(20, 20, 201));
        merged(instead(20, 21, 201, 20, 202), BASE, instead(20, 20, 201), instead(21, 21, 202));
        merged(instead(19, 20, 202, 19, 201), BASE, instead(20, 20, 201), instead(19, 19, 202));
    }

    private static void extraBytesBesideAChangedByte() {
        clash(20, BASE, instead(20, 20, 201), changed(20));
        clash(20, BASE, instead(20, 20, 201), changed(19));
        merged(instead(18, 20, 200, 19, 201), BASE, instead(20, 20, 201), changed(18));
        merged(instead(20, 22, 201, 20, 200), BASE, instead(20, 20, 201), changed(21));
    }

    private static void bytesLeftOutBesideOthers() {
        int[] mine = instead(20, 25);
        clash(25, BASE, mine, instead(25, 28));
        int[] behind = Check.join(Arrays.copyOf(BASE, 20), new int[] {25}, Arrays.copyOfRange(BASE, 28, 60));
        merged(behind, BASE, mine, instead(26, 28));
        clash(20, BASE, mine, instead(16, 20));
        int[] ahead = Check.join(Arrays.copyOf(BASE, 15), new int[] {19}, Arrays.copyOfRange(BASE, 25, 60));
        merged(ahead, BASE, mine, instead(15, 19));
        clash(25, BASE, mine, changed(25));
        int[] with = Check.join(Arrays.copyOf(BASE, 20), new int[] {25, 200}, Arrays.copyOfRange(BASE, 27, 60));
        merged(with, BASE, mine, changed(26));
        clash(20, BASE, mine, changed(19));
        clash(22, BASE, mine, changed(22));
        clash(22, BASE, mine, instead(22, 23));
        clash(20, BASE, mine, instead(20, 24));
        clash(20, BASE, mine, instead(18, 28));
    }

    private static void bytesLeftOutAndExtraOnes() {
        int[] mine = instead(20, 25);
        clash(25, BASE, mine, instead(25, 25, 201));
        clash(20, BASE, mine, instead(20, 20, 201));
        clash(23, BASE, mine, instead(23, 23, 201));
        int[] behind = Check.join(Arrays.copyOf(BASE, 20), new int[] {25, 201}, Arrays.copyOfRange(BASE, 26, 60));
        merged(behind, BASE, mine, instead(26, 26, 201));
        int[] ahead = Check.join(Arrays.copyOf(BASE, 19), new int[] {201, 19}, Arrays.copyOfRange(BASE, 25, 60));
        merged(ahead, BASE, mine, instead(19, 19, 201));
        clash(20, BASE, instead(20, 25, 201), instead(20, 25, 202));
        clash(20, BASE, mine, instead(20, 25, 202));
    }

    private static void aheadOfTheFirstCopy() {
        clash(0, BASE, instead(0, 0, 201), instead(0, 0, 202));
        clash(0, BASE, instead(0, 0, 201), instead(0, 1));
        merged(Check.join(new int[] {201}, changed(4)), BASE, instead(0, 0, 201), changed(4));
        clash(4, BASE, instead(0, 4), changed(4));
        merged(Arrays.copyOfRange(changed(5), 4, 60), BASE, instead(0, 4), changed(5));
        merged(instead(0, 1), BASE, instead(0, 1), instead(0, 1));
    }

    private static void behindTheLastCopy() {
        clash(60, BASE, instead(60, 60, 201), instead(60, 60, 202));
        clash(60, BASE, instead(60, 60, 201), instead(59, 60));
        merged(Check.join(changed(57), new int[] {201}), BASE, instead(60, 60, 201), changed(57));
        clash(58, BASE, instead(58, 60), changed(57));
        merged(Arrays.copyOf(changed(57), 59), BASE, instead(59, 60), changed(57));
        merged(instead(60, 60, 201), BASE, instead(60, 60, 201), instead(60, 60, 201));
    }

    /** One edit of the whole base, which touches all others. */
    private static void noCopyAtAll() {
        clash(0, BASE, new int[] {201}, instead(0, 0, 202));
        clash(60, BASE, new int[] {201}, instead(60, 60, 202));
        clash(30, BASE, new int[] {201}, changed(30));
        clash(0, BASE, new int[] {201}, new int[] {202});
        clash(0, BASE, new int[] {201}, new int[0]);
        merged(new int[] {201}, BASE, new int[] {201}, new int[] {201});
        merged(new int[] {201}, BASE, new int[] {201}, BASE);
        merged(new int[0], BASE, new int[0], new int[0]);
        merged(new int[0], BASE, new int[0], BASE);
        merged(BASE, BASE, BASE, BASE);
    }

    private static void anEmptyBase() {
        int[] none = {};
        merged(none, none, none, none);
        merged(new int[] {1}, none, new int[] {1}, none);
        merged(new int[] {1, 2}, none, new int[] {1, 2}, new int[] {1, 2});
        clash(0, none, new int[] {1}, new int[] {2});
        clash(0, none, new int[] {1}, new int[] {1, 1});
    }

    private static void thoseThatAreTheSame() {
        merged(changed(20), BASE, changed(20), changed(20));
        merged(changed(10, 20, 30), BASE, changed(10, 20), changed(20, 30));
        merged(instead(20, 25), BASE, instead(20, 25), instead(20, 25));
        merged(instead(20, 25, 201, 202), BASE, instead(20, 25, 201, 202), instead(20, 25, 201, 202));
        clash(20, BASE, instead(20, 25, 201, 202), instead(20, 25, 201, 203));
        clash(20, BASE, instead(20, 25, 201, 202), instead(20, 25, 201));
        clash(20, BASE, instead(20, 25, 201, 202), instead(20, 26, 201, 202));
        clash(20, BASE, instead(20, 25, 201, 202), instead(19, 25, 201, 202));
    }

    /** Only the same ones may touch one another: of two that are, the one still touches what stands beside the other. */
    private static void sameOnesThatTouchOthers() {
        clash(21, BASE, changed(20, 21), changed(20, 21));
        clash(21, BASE, changed(20, 21), changed(20));
        clash(21, BASE, changed(20, 21), changed(21));
        merged(changed(20, 22), BASE, changed(20, 22), changed(20, 22));
        merged(changed(20, 22), BASE, changed(20, 22), changed(20));
    }

    private static void theLowestPlaceOfSeveral() {
        int[] mine = changed(20, 30, 40);
        int[] theirs = changed(21, 30, 41);
        clash(21, BASE, mine, theirs);
        theirs[21] = 21;
        clash(41, BASE, mine, theirs);
        theirs[30] = 201;
        clash(30, BASE, mine, theirs);
        theirs[21] = 201;
        clash(21, BASE, mine, theirs);
        int[] low = Check.join(new int[] {201}, changed(20));
        int[] lower = Check.join(new int[] {202}, changed(21));
        clash(0, BASE, low, lower);
        clash(21, BASE, low, Check.join(new int[] {201}, changed(21)));
        clash(10, BASE, Check.join(Arrays.copyOf(BASE, 5), Arrays.copyOfRange(BASE, 50, 60)), changed(10, 20));
    }

    /** The copy behind begins one byte behind the end of the one ahead, just there, and one byte ahead of it. */
    private static void aCopyThatGoesBack() {
        int[] gap = Check.join(Arrays.copyOf(BASE, 20), Arrays.copyOfRange(BASE, 21, 60));
        int[] back = Check.join(Arrays.copyOf(BASE, 20), Arrays.copyOfRange(BASE, 19, 60));
        merged(gap, BASE, gap, BASE);
        Patchferry x = patched(BASE, back, BASE, instead(20, 20, 99));
        Check.same("the copy goes back by one", Check.text(x, 0), "c0+20 c19+41");
        Check.fails("the first one has it", x, UNSUPPORTED, () -> x.merge(0, 1));
        Check.fails("the second one has it", x, UNSUPPORTED, () -> x.merge(1, 0));
        Check.fails("both have it", x, UNSUPPORTED, () -> x.merge(0, 0));
        Check.fails("that is no clash", x, NONE, x::clash);
        x.make(3, 0);
        x.merge(2, 1);
        Check.same("compose", x.compose(2, 3), 4);
        Check.same("a copy just behind", Check.text(x, 4), "c0+20 c20+40");
        Check.same("merge", x.merge(4, 1), 5);
        Check.isTrue("it has no edits", x.isSame(5, 0));
        Patchferry y = patched(BASE, Check.join(Arrays.copyOfRange(BASE, 30, 40), Arrays.copyOf(BASE, 10)), BASE);
        Check.same("the copy goes far back", Check.text(y, 0), "c30+10 c0+10");
        Check.fails("far back", y, UNSUPPORTED, () -> y.merge(0, 1));
        int[] twice = Check.join(Arrays.copyOf(BASE, 20), new int[] {99}, Arrays.copyOfRange(BASE, 19, 60));
        Patchferry z = patched(BASE, twice, BASE);
        Check.same("back behind an extra byte", Check.text(z, 0), "c0+20 x1 c19+41");
        Check.fails("back behind an extra byte", z, UNSUPPORTED, () -> z.merge(0, 1));
    }

    private static void theyHaveNotOneBase() {
        int[] last = BASE.clone();
        last[59] = 99;
        Patchferry x = patched(BASE, BASE);
        Check.put(x, BASE);
        Check.put(x, last);
        Check.put(x, Arrays.copyOf(BASE, 59));
        Check.put(x);
        for (int file = 2; file < 6; file++) {
            x.make(file, 0);
        }
        Check.same("another file with the same bytes", x.merge(0, 1), 6);
        Check.fails("the last byte is unlike", x, UNSUPPORTED, () -> x.merge(0, 2));
        Check.fails("one byte lacks", x, UNSUPPORTED, () -> x.merge(0, 3));
        Check.fails("one is empty", x, UNSUPPORTED, () -> x.merge(4, 0));
        Check.fails("that is no clash", x, NONE, x::clash);
    }

    private static void aFileOf200And201() {
        int[] base = Check.rising(0, 100);
        int[] mine = Check.join(Arrays.copyOf(base, 30), Check.row(200, 60), Arrays.copyOfRange(base, 30, 100));
        for (int more : new int[] {39, 40, 41, 100}) {
            int[] theirs = Check.join(Arrays.copyOf(base, 60), Check.row(201, more), Arrays.copyOfRange(base, 60, 100));
            Patchferry x = patched(base, mine, theirs);
            if (more > 40) {
                Check.fails("merge to " + (160 + more), x, STATE, () -> x.merge(0, 1));
                Check.fails("that is no clash", x, NONE, x::clash);
            } else {
                Check.same("merge to " + (160 + more), x.merge(0, 1), 3);
                Check.same("its length", x.length(3), 160 + more);
            }
        }
    }

    private static void whatClashTells() {
        Patchferry x = patched(BASE, changed(20), changed(21), changed(30), changed(31), BASE,
                Check.join(Arrays.copyOfRange(BASE, 30, 40), Arrays.copyOf(BASE, 10)));
        Check.fails("none was refused", x, NONE, x::clash);
        Check.same("merge without a clash", x.merge(0, 2), 7);
        Check.fails("none was refused yet", x, NONE, x::clash);
        Check.fails("a clash", x, UNSUPPORTED, () -> x.merge(0, 1));
        Check.same("clash()", x.clash(), 21);
        Check.same("clash() again", x.clash(), 21);
        Check.fails("another clash", x, UNSUPPORTED, () -> x.merge(2, 3));
        Check.same("the last one", x.clash(), 31);
        Check.same("merge without a clash", x.merge(0, 4), 8);
        Check.same("the last one stays", x.clash(), 31);
        Check.fails("refused for a copy that goes back", x, UNSUPPORTED, () -> x.merge(0, 5));
        Check.same("the last one stays", x.clash(), 31);
        Check.fails("refused for a number", x, IndexOutOfBoundsException.class, () -> x.merge(0, 6));
        Check.same("the last one stays", x.clash(), 31);
        while (x.files() < 24) {
            x.file();
        }
        Check.fails("refused for 24 files", x, STATE, () -> x.merge(0, 4));
        Check.same("the last one stays", x.clash(), 31);
        Check.fails("a clash with 24 files", x, UNSUPPORTED, () -> x.merge(0, 1));
        Check.same("a lower one now", x.clash(), 21);
        Patchferry y = patched(BASE, instead(0, 0, 201), instead(0, 0, 202));
        Check.fails("a clash at 0", y, UNSUPPORTED, () -> y.merge(0, 1));
        Check.same("clash() at 0", y.clash(), 0);
        Patchferry z = new Patchferry();
        Check.fails("a new object", z, NONE, z::clash);
    }
}
