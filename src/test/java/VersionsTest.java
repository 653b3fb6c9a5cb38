import java.util.ArrayList;
import java.util.List;
import java.util.NoSuchElementException;

/** Promises 57 to 63. */
public final class VersionsTest {
    private static final Class<IndexOutOfBoundsException> INDEX = IndexOutOfBoundsException.class;
    private static final Class<IllegalArgumentException> ARGUMENT = IllegalArgumentException.class;
    private static final Class<IllegalStateException> STATE = IllegalStateException.class;
    private static final Class<UnsupportedOperationException> UNSUPPORTED = UnsupportedOperationException.class;

    public static void main(String[] args) {
        promise57Version();
        promises58And59Fetch();
        promise60Route();
        promise61Chain();
        promises62And63Fleet();
        manyVersions();
        Check.end("VersionsTest");
    }

    private static void promise57Version() {
        Patchferry x = new Patchferry();
        Check.put(x, 1, 2);
        Check.put(x, 3);
        for (int k = 0; k < 12; k++) {
            Check.same("version", x.version(k % 2), k);
        }
        Check.fails("the 13th version", x, STATE, () -> x.version(0));
        Check.fails("the 13th version of no file", x, INDEX, () -> x.version(2));
        Check.fails("version(-1)", x, INDEX, () -> x.version(-1));
        Check.same("fetch(11)", x.fetch(11), 2 + 6 * 11 + 5 * 12);
    }

    private static void promises58And59Fetch() {
        Patchferry x = new Patchferry();
        Check.fails("setKey of none", x, INDEX, () -> x.setKey(0, false));
        Check.fails("fetch of none", x, INDEX, () -> x.fetch(0));
        Check.put(x, Check.rising(0, 100));
        Check.put(x, Check.join(Check.rising(0, 50), new int[] {250}, Check.rising(50, 50)));
        Check.put(x, Check.rising(0, 90));
        for (int k = 0; k < 3; k++) {
            x.version(k);
        }
        int first = 8 + 3 + 3 + 3;
        int second = 8 + 3 + 3;
        Check.same("fetch(0)", x.fetch(0), 100);
        Check.same("fetch(1)", x.fetch(1), 100 + first);
        Check.same("fetch(2)", x.fetch(2), 100 + first + second);
        Check.isFalse("setKey(1, true)", x.setKey(1, true));
        Check.same("fetch of a key", x.fetch(1), 101);
        Check.same("fetch behind a key", x.fetch(2), 101 + second);
        Check.same("fetch ahead of it", x.fetch(0), 100);
        Check.isTrue("setKey(1, true) again", x.setKey(1, true));
        Check.isTrue("setKey(1, false)", x.setKey(1, false));
        Check.isFalse("setKey(1, false) again", x.setKey(1, false));
        Check.same("fetch(2)", x.fetch(2), 100 + first + second);
        Check.isTrue("the first one is a key", x.setKey(0, true));
        Check.fails("the first one stays one", x, UNSUPPORTED, () -> x.setKey(0, false));
        Check.fails("setKey(3, false)", x, INDEX, () -> x.setKey(3, false));
        Check.fails("setKey(-1, true)", x, INDEX, () -> x.setKey(-1, true));
        Check.fails("fetch(3)", x, INDEX, () -> x.fetch(3));
        Check.fails("fetch(-1)", x, INDEX, () -> x.fetch(-1));
    }

    private static void promise60Route() {
        Patchferry x = new Patchferry();
        Check.put(x, Check.rising(0, 100));
        Check.put(x, 5, 6, 7);
        Check.put(x, Check.join(new int[] {250}, Check.rising(0, 100)));
        Check.put(x, Check.join(new int[] {250}, Check.rising(0, 100)));
        for (int k = 0; k < 4; k++) {
            x.version(k);
        }
        Check.same("to itself", x.route(2, 2), 0);
        Check.same("the file whole", x.route(0, 1), 3);
        Check.same("straight", x.route(0, 2), 8 + 3 + 3);
        Check.same("to the next one, the same bytes", x.route(2, 3), 8 + 3);
        Check.same("straight back", x.route(3, 0), 8 + 3);
        Check.same("back, the file whole", x.route(2, 1), 3);
        Check.fails("route(4, 0)", x, INDEX, () -> x.route(4, 0));
        Check.fails("route(0, 4)", x, INDEX, () -> x.route(0, 4));
        Check.fails("route(-1, -1)", x, INDEX, () -> x.route(-1, -1));
        onTheWay();
    }

    /** Two patches that take less than the one from end to end, which finds no match of four bytes. */
    private static void onTheWay() {
        Patchferry x = new Patchferry();
        int[] first = Check.rising(0, 120);
        int[] second = first.clone();
        int[] third = first.clone();
        for (int k = 0; k < 120; k += 10) {
            second[k] = 240;
            third[k] = 240;
            third[k + 4] = 241;
            third[k + 7] = 242;
        }
        Check.put(x, first);
        Check.put(x, second);
        Check.put(x, third);
        for (int k = 0; k < 3; k++) {
            x.version(k);
        }
        List<int[]> versions = List.of(first, second, third);
        int along = Plain.walk(versions, 0, 2);
        int back = Plain.walk(versions, 2, 0);
        Check.isTrue("the way takes less", along < 120 && along < Plain.patchBytes(first, third));
        Check.same("on the way", x.route(0, 2), along);
        Check.same("on the way back", x.route(2, 0), Plain.route(versions, 2, 0));
        Check.isTrue("a way back", back > 0);
    }

    private static void promise61Chain() {
        Patchferry x = new Patchferry();
        Check.put(x, Check.rising(0, 40));
        Check.put(x, Check.join(Check.rising(10, 10), new int[] {201, 202, 203}, Check.rising(20, 10)));
        Check.put(x, Check.join(new int[] {77}, Check.rising(12, 8), new int[] {201, 202, 203}, Check.rising(20, 5)));
        for (int k = 0; k < 3; k++) {
            x.version(k);
        }
        Check.same("chain(0, 1)", x.chain(0, 1), 0);
        Check.same("chain(1, 2)", x.chain(1, 2), 1);
        Check.same("chain(0, 2)", x.chain(0, 2), 2);
        Check.same("of one", Check.text(x, 0), "c10+10 x3 c20+10");
        Check.same("of the second one", Check.text(x, 1), "x1 c2+16");
        Check.same("of two", Check.text(x, 2), "x1 c12+8 x3 c20+5");
        Check.isTrue("what it makes", x.isSame(x.apply(2, 0), 2));
        Check.fails("chain(1, 1)", x, ARGUMENT, () -> x.chain(1, 1));
        Check.fails("chain(2, 0)", x, ARGUMENT, () -> x.chain(2, 0));
        Check.fails("chain(0, 3)", x, INDEX, () -> x.chain(0, 3));
        Check.fails("chain(3, 0)", x, INDEX, () -> x.chain(3, 0));
        Check.fails("chain(-1, 0)", x, INDEX, () -> x.chain(-1, 0));
        for (int k = 3; k < 20; k++) {
            x.chain(0, 2);
        }
        Check.fails("chain with 20 patches", x, STATE, () -> x.chain(0, 1));
        Check.fails("chain back with 20 patches", x, ARGUMENT, () -> x.chain(1, 0));
    }

    private static void promises62And63Fleet() {
        Patchferry x = new Patchferry();
        Check.fails("fleet without versions", x, NoSuchElementException.class, () -> x.fleet(0));
        Check.fails("fleet(13) without versions", x, NoSuchElementException.class, () -> x.fleet(13));
        Check.fails("setCount of none", x, INDEX, () -> x.setCount(0, 100));
        Check.put(x, Check.rising(0, 100));
        Check.put(x, 1, 2, 3);
        Check.put(x, Check.rising(0, 50));
        for (int k = 0; k < 3; k++) {
            x.version(k);
            Check.same("setCount", x.setCount(k, 10 + k), 0);
        }
        Check.same("fleet(0)", x.fleet(0), 21 * 50);
        Check.same("fleet(1)", x.fleet(1), 10 * 11 + 11 * 50);
        Check.same("a patch that takes more is not made", x.fleet(2), 10 * 11 + 11 * 50);
        Check.same("fleet(12)", x.fleet(12), 10 * 11 + 11 * 50);
        Check.same("setCount(0, 0)", x.setCount(0, 0), 10);
        Check.same("setCount(1, 99)", x.setCount(1, 99), 11);
        Check.same("fleet(1)", x.fleet(1), 99 * 50);
        Check.fails("setCount(0, 100)", x, ARGUMENT, () -> x.setCount(0, 100));
        Check.fails("setCount(0, -1)", x, ARGUMENT, () -> x.setCount(0, -1));
        Check.fails("setCount(3, 100)", x, INDEX, () -> x.setCount(3, 100));
        Check.fails("fleet(13)", x, ARGUMENT, () -> x.fleet(13));
        Check.fails("fleet(-1)", x, ARGUMENT, () -> x.fleet(-1));
        Check.same("setCount(1, 99) again", x.setCount(1, 99), 99);
        x.version(0);
        Check.same("a newer one is wanted", x.fleet(0), (99 + 12) * 100);
        Check.same("by patches", x.fleet(1), 99 * 100 + 12 * Plain.patchBytes(Check.rising(0, 50), Check.rising(0, 100)));
    }

    private static void manyVersions() {
        Dice dice = new Dice(12);
        for (int round = 0; round < 60; round++) {
            Patchferry x = new Patchferry();
            List<int[]> versions = new ArrayList<>();
            int many = 1 + dice.below(12);
            int[] counts = new int[many];
            boolean[] keys = new boolean[many];
            keys[0] = true;
            for (int k = 0; k < many; k++) {
                versions.add(k == 0 || dice.below(5) == 0 ? dice.mixed(200) : dice.altered(versions.get(k - 1)));
                x.version(Check.put(x, versions.get(k)));
                Check.same("setCount", x.setCount(k, counts[k] = dice.below(20)), 0);
                if (k > 0 && dice.below(4) == 0) {
                    keys[k] = true;
                    x.setKey(k, true);
                }
                Check.same("fetch while they come", x.fetch(k), fetch(versions, keys, k));
            }
            for (int k = 0; k < many; k++) {
                Check.same("fetch", x.fetch(k), fetch(versions, keys, k));
                for (int other = 0; other < many; other++) {
                    Check.same("route", x.route(k, other), Plain.route(versions, k, other));
                }
            }
            for (int patches = 0; patches <= 12; patches++) {
                Check.same("fleet", x.fleet(patches), Plain.fleet(versions, counts, patches));
            }
            chains(dice, x, versions);
            Check.isTrue("isSound", x.isSound());
        }
    }

    private static int fetch(List<int[]> versions, boolean[] keys, int version) {
        int key = version;
        while (!keys[key]) {
            key--;
        }
        return versions.get(key).length + Plain.walk(versions, key, version);
    }

    private static void chains(Dice dice, Patchferry x, List<int[]> versions) {
        for (int patch = 0; patch < 10 && versions.size() > 1; patch++) {
            int from = dice.below(versions.size() - 1);
            int to = from + 1 + dice.below(versions.size() - 1 - from);
            Check.same("chain", x.chain(from, to), patch);
            // The oracle joins from the back, which must come to the same.
            List<Plain.Op> due = Plain.draw(versions.get(to - 1), versions.get(to));
            for (int k = to - 1; k > from; k--) {
                due = Plain.compose(Plain.draw(versions.get(k - 1), versions.get(k)), due);
            }
            Check.same("text", Check.text(x, patch), Plain.text(due));
            Check.same("bytes", x.bytes(patch), Plain.bytes(due));
            x.apply(patch, from);
            Check.same("applied", Check.read(x, x.files() - 1), versions.get(to));
        }
    }
}
