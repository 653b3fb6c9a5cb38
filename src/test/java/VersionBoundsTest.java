import java.util.Arrays;
import java.util.NoSuchElementException;

/** Each sentence of promises 57 to 63 and of "Versions" that names a boundary: at it, below it, above it. */
public final class VersionBoundsTest {
    private static final Class<IllegalArgumentException> ARGUMENT = IllegalArgumentException.class;
    private static final Class<IllegalStateException> STATE = IllegalStateException.class;
    private static final Class<IndexOutOfBoundsException> INDEX = IndexOutOfBoundsException.class;
    private static final Class<UnsupportedOperationException> UNSUPPORTED = UnsupportedOperationException.class;
    private static final Class<NoSuchElementException> NONE = NoSuchElementException.class;
    private static final int[] TEXT = Check.rising(0, 100);

    public static void main(String[] args) {
        atMost12Versions();
        theFirstOneIsAKey();
        theLastKeyUpToIt();
        fetchingTheFirstAndTheLast();
        nothingToItself();
        theFileWholeOrThePatch();
        theWayForwardAndBack();
        theOtherOneIsNotLater();
        chainsOfOneAndOfEleven();
        theCountIs0To99();
        manyIs0To12();
        whoHasTheNewestTakesNothing();
        onlyPatchesThatTakeLess();
        asFewBytesAsCanBe();
        Check.end("VersionBoundsTest");
    }

    private static Patchferry versions(int[]... texts) {
        Patchferry x = new Patchferry();
        for (int[] text : texts) {
            x.version(Check.put(x, text));
        }
        return x;
    }

    private static void atMost12Versions() {
        Patchferry x = new Patchferry();
        Check.fails("version of no file", x, INDEX, () -> x.version(0));
        Check.put(x, 1);
        for (int k = 0; k < 12; k++) {
            Check.same("version", x.version(0), k);
            Check.same("fetch", x.fetch(k), 1 + 11 * k);
        }
        Check.fails("the 13th", x, STATE, () -> x.version(0));
        Check.fails("the 13th, of no file", x, INDEX, () -> x.version(1));
        Check.same("the 12th stays the last one", x.route(11, 0), 1);
        Check.fails("fetch(12)", x, INDEX, () -> x.fetch(12));
    }

    private static void theFirstOneIsAKey() {
        Patchferry x = versions(TEXT, TEXT);
        Check.fails("the first one should be none", x, UNSUPPORTED, () -> x.setKey(0, false));
        Check.isTrue("the first one was one", x.setKey(0, true));
        Check.isTrue("the first one is one", x.setKey(0, true));
        Check.isFalse("the second one was none", x.setKey(1, false));
        Check.isFalse("the second one was none", x.setKey(1, true));
        Check.isTrue("the second one was one", x.setKey(1, true));
        Check.isTrue("the second one was one", x.setKey(1, false));
        Check.fails("setKey(2, false)", x, INDEX, () -> x.setKey(2, false));
        Check.fails("setKey(-1, false)", x, INDEX, () -> x.setKey(-1, false));
    }

    private static void theLastKeyUpToIt() {
        Patchferry x = versions(TEXT, Arrays.copyOf(TEXT, 90), Arrays.copyOf(TEXT, 80), Arrays.copyOf(TEXT, 70));
        Check.same("from the first one", x.fetch(2), 100 + 11 + 11);
        x.setKey(1, true);
        Check.same("from the one ahead", x.fetch(2), 90 + 11);
        x.setKey(2, true);
        Check.same("from itself", x.fetch(2), 80);
        x.setKey(3, true);
        Check.same("not from the one behind", x.fetch(2), 80);
        x.setKey(2, false);
        Check.same("from the one ahead again", x.fetch(2), 90 + 11);
        Check.same("the one behind, from itself", x.fetch(3), 70);
        x.setKey(3, false);
        Check.same("from two ahead", x.fetch(3), 90 + 11 + 11);
        Check.same("ahead of all keys but the first one", x.fetch(0), 100);
    }

    private static void fetchingTheFirstAndTheLast() {
        Patchferry x = versions(new int[0]);
        Check.same("an empty one", x.fetch(0), 0);
        Check.fails("fetch(1)", x, INDEX, () -> x.fetch(1));
        x.version(0);
        Check.same("an empty one behind it", x.fetch(1), 8);
        x.version(Check.put(x, TEXT));
        Check.same("100 bytes from nothing", x.fetch(2), 0 + 8 + 8 + 2 + 100);
        x.setKey(2, true);
        Check.same("100 bytes as a key", x.fetch(2), 100);
    }

    private static void nothingToItself() {
        Patchferry x = versions(TEXT, TEXT, new int[0]);
        Check.same("route(0, 0)", x.route(0, 0), 0);
        Check.same("route(1, 1)", x.route(1, 1), 0);
        Check.same("to another one with the same bytes", x.route(0, 1), 11);
        Check.same("to an empty one", x.route(0, 2), 0);
        Check.same("route(2, 2)", x.route(2, 2), 0);
        Check.fails("route(3, 3)", x, INDEX, () -> x.route(3, 3));
        Check.fails("route(0, 3)", x, INDEX, () -> x.route(0, 3));
        Check.fails("route(3, 0)", x, INDEX, () -> x.route(3, 0));
    }

    /** A patch takes 11: the file whole takes one less, as many, one more. */
    private static void theFileWholeOrThePatch() {
        Patchferry x = versions(TEXT, Arrays.copyOf(TEXT, 10), Arrays.copyOf(TEXT, 11), Arrays.copyOf(TEXT, 12));
        Check.same("10 bytes whole", x.route(0, 1), 10);
        Check.same("11 bytes either way", x.route(0, 2), 11);
        Check.same("12 bytes by the patch", x.route(0, 3), 11);
        Check.same("100 bytes whole, for a patch from 12 of them takes 101", x.route(3, 0), 100);
        Check.same("100 bytes from 11 and from 10 of them", x.route(2, 0) + x.route(1, 0), 200);
    }

    /** Two steps over the one between, or the patch from end to end, which finds no match of four bytes in places. */
    private static void theWayForwardAndBack() {
        int[] second = TEXT.clone();
        int[] third = TEXT.clone();
        for (int k = 0; k < 100; k += 10) {
            second[k] = 240;
            third[k] = 240;
            third[k + 4] = 241;
            third[k + 7] = 242;
        }
        Patchferry x = versions(TEXT, second, third);
        int there = Plain.patchBytes(TEXT, second) + Plain.patchBytes(second, third);
        int back = Plain.patchBytes(third, second) + Plain.patchBytes(second, TEXT);
        Check.isTrue("the way takes less than the file", there < 100);
        Check.isTrue("the way takes less than the patch", there < Plain.patchBytes(TEXT, third));
        Check.same("forward", x.route(0, 2), there);
        int whole = Math.min(100, Plain.patchBytes(third, TEXT));
        Check.same("back", x.route(2, 0), Math.min(whole, back));
        // Over another file on the way it takes the patch from end to end.
        Patchferry y = versions(TEXT, Check.row(255, 50), TEXT);
        Check.same("straight forward", y.route(0, 2), 11);
        Check.same("straight back", y.route(2, 0), 11);
    }

    private static void theOtherOneIsNotLater() {
        Patchferry x = versions(TEXT, TEXT, TEXT);
        Check.same("the next one", x.chain(1, 2), 0);
        Check.fails("the same one", x, ARGUMENT, () -> x.chain(1, 1));
        Check.fails("the one ahead", x, ARGUMENT, () -> x.chain(1, 0));
        Check.fails("the last one and itself", x, ARGUMENT, () -> x.chain(2, 2));
        Check.fails("behind the last one", x, INDEX, () -> x.chain(2, 3));
        Check.fails("from behind the last one", x, INDEX, () -> x.chain(3, 4));
        Check.fails("from ahead of the first one", x, INDEX, () -> x.chain(-1, 0));
    }

    private static void chainsOfOneAndOfEleven() {
        Patchferry x = new Patchferry();
        for (int k = 0; k < 12; k++) {
            x.version(Check.put(x, Check.rising(k, 40)));
        }
        Check.same("chain(0, 1)", x.chain(0, 1), 0);
        Check.same("of one", Check.text(x, 0), "c1+39 x1");
        Check.same("chain(0, 2)", x.chain(0, 2), 1);
        Check.same("of two", Check.text(x, 1), "c2+38 x1 x1");
        Check.same("chain(0, 11)", x.chain(0, 11), 2);
        Check.same("of eleven", Check.text(x, 2), "c11+29" + " x1".repeat(11));
        Check.isTrue("what it makes", x.isSame(x.apply(2, 0), 11));
    }

    private static void theCountIs0To99() {
        Patchferry x = versions(TEXT);
        Check.same("0 at first", x.setCount(0, 0), 0);
        Check.same("setCount(0, 1)", x.setCount(0, 1), 0);
        Check.same("setCount(0, 98)", x.setCount(0, 98), 1);
        Check.same("setCount(0, 99)", x.setCount(0, 99), 98);
        for (int count : new int[] {100, 101, -1, -2, Integer.MIN_VALUE, Integer.MAX_VALUE}) {
            Check.fails("setCount(0, " + count + ")", x, ARGUMENT, () -> x.setCount(0, count));
            Check.fails("setCount(1, " + count + ")", x, INDEX, () -> x.setCount(1, count));
        }
        Check.same("setCount(0, 0)", x.setCount(0, 0), 99);
    }

    private static void manyIs0To12() {
        Patchferry none = new Patchferry();
        for (int many : new int[] {0, 12, -1, 13}) {
            Check.fails("fleet(" + many + ") without versions", none, NONE, () -> none.fleet(many));
        }
        Patchferry x = versions(Arrays.copyOf(TEXT, 99), TEXT);
        x.setCount(0, 10);
        Check.same("fleet(0)", x.fleet(0), 1000);
        Check.same("fleet(1)", x.fleet(1), 140);
        Check.same("fleet(11)", x.fleet(11), 140);
        Check.same("fleet(12)", x.fleet(12), 140);
        for (int many : new int[] {13, 14, -1, -2, Integer.MIN_VALUE, Integer.MAX_VALUE}) {
            Check.fails("fleet(" + many + ")", x, ARGUMENT, () -> x.fleet(many));
        }
    }

    private static void whoHasTheNewestTakesNothing() {
        Patchferry x = versions(TEXT);
        x.setCount(0, 99);
        Check.same("one version", x.fleet(0), 0);
        Check.same("one version and patches", x.fleet(12), 0);
        x.version(0);
        Check.same("the same bytes, but not the newest one", x.fleet(0), 9900);
        Check.same("by the patch to the same bytes", x.fleet(1), 99 * 11);
        x.setCount(0, 0);
        x.setCount(1, 99);
        Check.same("the newest one", x.fleet(0), 0);
        Check.same("none with the other one, and patches", x.fleet(12), 0);
        x.setCount(0, 1);
        Check.same("one with the other one", x.fleet(0), 100);
        Check.same("one with the other one, and a patch", x.fleet(1), 11);
    }

    /** To 10, 11 and 12 bytes, of which each patch takes 11. */
    private static void onlyPatchesThatTakeLess() {
        int[] due = {50, 55, 55};
        for (int k = 0; k < 3; k++) {
            Patchferry x = versions(TEXT, Arrays.copyOf(TEXT, 10 + k));
            x.setCount(0, 5);
            Check.same("whole, of " + (10 + k), x.fleet(0), 5 * (10 + k));
            Check.same("with a patch, of " + (10 + k), x.fleet(1), due[k]);
        }
        Patchferry y = versions(TEXT, new int[0]);
        y.setCount(0, 99);
        Check.same("nothing whole", y.fleet(0), 0);
        Check.same("nothing by a patch would take 8", y.fleet(1), 0);
    }

    /** Each patch to the newest one takes 11, and saves 89 for each who has the version. */
    private static void asFewBytesAsCanBe() {
        Patchferry x = new Patchferry();
        int[] counts = {3, 9, 1, 9, 0, 2, 5, 7, 1, 4, 6, 99};
        int all = -99;
        for (int k = 0; k < 12; k++) {
            x.version(Check.put(x, Check.join(TEXT, new int[] {200 + k})));
            x.setCount(k, counts[k]);
            all += counts[k];
        }
        x.setKey(5, true);
        int[] saved = {0, 9, 18, 25, 31, 36, 40, 43, 45, 46, 47, 47, 47};
        int patch = 8 + 3 + 3;
        for (int many = 0; many <= 12; many++) {
            Check.same("fleet(" + many + ")", x.fleet(many), all * 101 - saved[many] * (101 - patch));
        }
    }
}
