import java.util.ArrayList;
import java.util.Arrays;
import java.util.HashMap;
import java.util.List;
import java.util.Map;
import java.util.NoSuchElementException;
import java.util.Set;
import java.util.TreeSet;

/** The whole face once more, over Plain, with what an object holds between its calls. */
final class Model {
    private record Patch(int[] base, List<Plain.Op> ops) {
        int[] made() {
            return Plain.made(base, ops);
        }
    }

    private final List<int[]> files = new ArrayList<>();
    private final List<Patch> patches = new ArrayList<>();
    private final List<int[]> versions = new ArrayList<>();
    private final Map<String, Integer> shelf = new HashMap<>();
    private final Set<Integer> stored = new TreeSet<>();
    private final int[] folders = new int[24];
    private final boolean[] keys = new boolean[12];
    private final int[] counts = new int[12];
    private int[] buffer = {};
    private String word = "";
    private int clash = -1;
    private int[] disk = {};
    private Patch laid;
    private Plain.Plan plan;
    private int done;
    private int cut = -1;

    private int[] file(int number) {
        if (number < 0 || number >= files.size()) {
            throw new IndexOutOfBoundsException();
        }
        return files.get(number);
    }

    private Patch patch(int number) {
        if (number < 0 || number >= patches.size()) {
            throw new IndexOutOfBoundsException();
        }
        return patches.get(number);
    }

    private Plain.Op op(int patch, int operation) {
        return patch(patch).ops().get(index(operation, patch(patch).ops().size()));
    }

    private int[] text(int version) {
        return versions.get(index(version, versions.size()));
    }

    private static int index(int index, int count) {
        if (index < 0 || index >= count) {
            throw new IndexOutOfBoundsException();
        }
        return index;
    }

    private static void range(int number, int least, int most) {
        if (number < least || number > most) {
            throw new IllegalArgumentException();
        }
    }

    private static void support(boolean is) {
        if (!is) {
            throw new UnsupportedOperationException();
        }
    }

    private static void state(boolean is) {
        if (!is) {
            throw new IllegalStateException();
        }
    }

    private static void some(boolean is) {
        if (!is) {
            throw new NoSuchElementException();
        }
    }

    private int keep(int[] bytes) {
        state(files.size() < 24 && bytes.length <= 200);
        files.add(bytes);
        return files.size() - 1;
    }

    private int keepPatch(int[] base, List<Plain.Op> ops) {
        patches.add(new Patch(base, ops));
        return patches.size() - 1;
    }

    private int fill(int[] more) {
        state(buffer.length + more.length <= 200);
        buffer = Check.join(buffer, more);
        return buffer.length;
    }

    public int type(int number) {
        range(number, 0, 255);
        return fill(new int[] {number});
    }

    public int repeat(int number, int many) {
        range(number, 0, 255);
        range(many, 1, 200);
        return fill(Check.row(number, many));
    }

    public int quote(int file, int from, int many) {
        int[] text = file(file);
        range(many, 1, 200);
        range(from, 0, text.length - many);
        return fill(Arrays.copyOfRange(text, from, from + many));
    }

    public int file() {
        int number = keep(buffer);
        buffer = new int[0];
        return number;
    }

    public int length(int file) {
        return file(file).length;
    }

    public int at(int file, int place) {
        return file(file)[index(place, file(file).length)];
    }

    public boolean isSame(int file, int other) {
        return Arrays.equals(file(file), file(other));
    }

    public int letter(char letter) {
        range(letter, 'a', 'z');
        state(word.length() < 12);
        word += letter;
        return word.length();
    }

    public int doWord() {
        String typed = word;
        word = "";
        int had = buffer.length;
        switch (typed) {
            case "wipe":
                buffer = new int[0];
                return had;
            case "turn":
                int[] former = buffer;
                buffer = new int[had];
                Arrays.setAll(buffer, k -> former[had - 1 - k]);
                return had;
            case "raise":
                buffer = Arrays.stream(buffer).map(k -> k == 255 ? 0 : k + 1).toArray();
                return had;
            case "half":
                buffer = had > 100 ? Arrays.copyOf(buffer, 100) : buffer;
                return buffer.length;
            default:
                return -1;
        }
    }

    public int endAt(int file, int rank) {
        return Plain.ends(file(file)).get(index(rank, file(file).length));
    }

    public int matchLength(int file, int other, int place) {
        file(file);
        return Plain.match(file(file), file(other), index(place, file(other).length))[0];
    }

    public int matchPlace(int file, int other, int place) {
        some(matchLength(file, other, place) > 0);
        return Plain.match(file(file), file(other), place)[1];
    }

    public int slack(int file, int at, int other, int place) {
        index(at, file(file).length + 1);
        index(place, file(other).length + 1);
        return Plain.slack(file(file), at, file(other), place);
    }

    public int make(int file, int other) {
        List<Plain.Op> ops = Plain.draw(file(file), file(other));
        state(patches.size() < 20);
        return keepPatch(file(file), ops);
    }

    public int operations(int patch) {
        return patch(patch).ops().size();
    }

    public char kindOf(int patch, int operation) {
        return op(patch, operation).from() < 0 ? 'x' : 'c';
    }

    public int fromOf(int patch, int operation) {
        some(op(patch, operation).from() >= 0);
        return op(patch, operation).from();
    }

    public int lengthOf(int patch, int operation) {
        return op(patch, operation).adds().length;
    }

    public char signAt(int patch, int index) {
        String text = Plain.text(patch(patch).ops());
        return text.charAt(index(index, text.length()));
    }

    public int bytes(int patch) {
        return Plain.bytes(patch(patch).ops());
    }

    public int apply(int patch, int file) {
        patch(patch);
        support(Arrays.equals(file(file), patch(patch).base()));
        return keep(patch(patch).made());
    }

    public int compose(int patch, int other) {
        support(Arrays.equals(patch(patch).made(), patch(other).base()));
        state(patches.size() < 20);
        return keepPatch(patch(patch).base(), Plain.compose(patch(patch).ops(), patch(other).ops()));
    }

    public int merge(int patch, int other) {
        int[] base = patch(patch).base();
        support(Arrays.equals(base, patch(other).base()));
        List<Plain.Edit> mine = Plain.edits(base, patch(patch).ops());
        List<Plain.Edit> theirs = Plain.edits(base, patch(other).ops());
        support(mine != null && theirs != null);
        int touched = Plain.clash(mine, theirs);
        clash = touched >= 0 ? touched : clash;
        support(touched < 0);
        return keep(Plain.merged(base, mine, theirs));
    }

    public int clash() {
        some(clash >= 0);
        return clash;
    }

    public int pieces(int file) {
        return Plain.pieces(file(file)).size();
    }

    public int pieceLength(int file, int piece) {
        return Plain.pieces(file(file)).get(index(piece, pieces(file))).length();
    }

    public int store(int file) {
        file(file);
        support(stored.add(file));
        int before = stored();
        Plain.pieces(file(file)).forEach(piece -> shelf.merge(piece, 1, Integer::sum));
        return stored() - before;
    }

    public int drop(int file) {
        file(file);
        support(stored.remove(file));
        Plain.pieces(file(file)).forEach(piece -> shelf.merge(piece, -1, Integer::sum));
        return shelf.size();
    }

    public int collect() {
        int before = stored();
        shelf.values().removeIf(uses -> uses == 0);
        return before - stored();
    }

    public int stored() {
        return shelf.keySet().stream().mapToInt(String::length).sum();
    }

    public int likeness(int file, int other) {
        return Plain.likeness(file(file), file(other));
    }

    public int setFolder(int file, int folder) {
        file(file);
        range(folder, 0, 2);
        int former = folders[file];
        folders[file] = folder;
        return former;
    }

    public int renamed(int file) {
        file(file);
        Integer old = Plain.renamed(files, folders).get(file);
        some(old != null);
        return old;
    }

    private int blocks(int file, int other, int length, int which) {
        file(file);
        file(other);
        range(length, 2, 64);
        return Plain.blocks(file(file), file(other), length)[which];
    }

    public int literals(int file, int other, int length) {
        return blocks(file, other, length, 0);
    }

    public int falseOnes(int file, int other, int length) {
        return blocks(file, other, length, 1);
    }

    public int wire(int file, int other, int length) {
        return blocks(file, other, length, 2);
    }

    public int bestLength(int file, int other) {
        int best = 2;
        for (int length : new int[] {2, 4, 8, 16, 32, 64}) {
            best = wire(file, other, length) < wire(file, other, best) ? length : best;
        }
        return best;
    }

    public int labels(int file) {
        some(Plain.labels(file(file)) != null);
        return Plain.labels(file(file)).size();
    }

    public int label(int file) {
        support(Plain.labels(file(file)) != null);
        return keep(Plain.labelled(file(file)));
    }

    public int unlabel(int file) {
        int[] plain = Plain.unlabelled(file(file));
        support(plain != null);
        return keep(plain);
    }

    public int labelledBytes(int file, int other) {
        file(file);
        some(Plain.labels(file(other)) != null && Plain.labels(file(file)) != null);
        return Plain.patchBytes(Plain.labelled(file(file)), Plain.labelled(file(other)));
    }

    public int pack(int file, int mode) {
        file(file);
        range(mode, 1, 3);
        return keep(Plain.pack(file(file), mode));
    }

    public int unpack(int file) {
        int[] text = Plain.unpack(file(file));
        support(text != null);
        return keep(text);
    }

    public int modeOf(int file) {
        return Plain.mode(file(file));
    }

    public int insideBytes(int file, int other) {
        return Plain.inside(file(file), file(other));
    }

    public int load(int file) {
        disk = file(file);
        laid = null;
        done = 0;
        return disk.length;
    }

    public int setCut(int steps) {
        range(steps, -1, 10);
        int former = cut;
        cut = steps;
        return former;
    }

    public int lay(int patch) {
        patch(patch);
        state(isWhole());
        support(patch(patch).ops().size() <= 10 && Arrays.equals(disk, patch(patch).base()));
        laid = patch(patch);
        plan = Plain.plan(laid.ops());
        done = 0;
        disk = Arrays.copyOf(disk, Math.max(disk.length, laid.made().length));
        return run();
    }

    public int goOn() {
        state(!isWhole());
        return run();
    }

    private int run() {
        int steps = Math.min(cut < 0 ? 10 : cut, laid.ops().size() - done);
        cut = -1;
        disk = disk.clone();
        for (int k = 0; k < steps; k++, done++) {
            int op = plan.order().get(done);
            int begin = laid.ops().subList(0, op).stream().mapToInt(other -> other.adds().length).sum();
            System.arraycopy(laid.made(), begin, disk, begin, laid.ops().get(op).adds().length);
        }
        disk = isWhole() ? Arrays.copyOf(disk, laid.made().length) : disk;
        return steps;
    }

    public boolean isWhole() {
        return laid == null || done == laid.ops().size();
    }

    public int savedBytes() {
        some(laid != null);
        return plan.bytes();
    }

    public int orderAt(int index) {
        return laid == null ? index(0, 0) : plan.order().get(index(index, laid.ops().size()));
    }

    public int diskLength() {
        return disk.length;
    }

    public int onDisk(int place) {
        return disk[index(place, disk.length)];
    }

    public boolean isOn(int file) {
        return Arrays.equals(disk, file(file));
    }

    public int version(int file) {
        file(file);
        state(versions.size() < 12);
        keys[versions.size()] = versions.isEmpty();
        versions.add(file(file));
        return versions.size() - 1;
    }

    public boolean setKey(int version, boolean is) {
        index(version, versions.size());
        support(version > 0 || is);
        boolean was = keys[version];
        keys[version] = is;
        return was;
    }

    public int fetch(int version) {
        int key = index(version, versions.size());
        while (!keys[key]) {
            key--;
        }
        return versions.get(key).length + Plain.walk(versions, key, version);
    }

    public int route(int version, int other) {
        text(version);
        text(other);
        return Plain.route(versions, version, other);
    }

    public int chain(int version, int other) {
        int[] base = text(version);
        text(other);
        range(other, version + 1, 11);
        state(patches.size() < 20);
        List<Plain.Op> ops = Plain.draw(base, versions.get(version + 1));
        for (int k = version + 1; k < other; k++) {
            ops = Plain.compose(ops, Plain.draw(versions.get(k), versions.get(k + 1)));
        }
        return keepPatch(base, ops);
    }

    public int setCount(int version, int count) {
        text(version);
        range(count, 0, 99);
        int former = counts[version];
        counts[version] = count;
        return former;
    }

    public int fleet(int many) {
        some(!versions.isEmpty());
        range(many, 0, 12);
        return Plain.fleet(versions, counts, many);
    }

    public long rootOf(int file) {
        return Plain.root(Plain.leaves(file(file)));
    }

    public boolean proves(int file, int mirror, int leaf) {
        int leaves = Plain.leaves(file(file)).size();
        int others = Plain.leaves(file(mirror)).size();
        index(leaf, leaves);
        support(leaves == others);
        return Plain.proves(file(file), file(mirror), leaf);
    }

    public int liar(int file, int mirror) {
        int leaves = Plain.leaves(file(file)).size();
        support(leaves == Plain.leaves(file(mirror)).size());
        for (int leaf = 0; leaf < leaves; leaf++) {
            if (!proves(file, mirror, leaf)) {
                return leaf;
            }
        }
        return -1;
    }

    public int files() {
        return files.size();
    }

    public long sumOf(int file) {
        return Plain.strong(file(file), 0, file(file).length, 1);
    }

    public float share(int patch) {
        int many = patch(patch).made().length;
        some(many > 0);
        return (float) bytes(patch) / (float) many;
    }

    public double meanLength() {
        some(!files.isEmpty());
        return (double) files.stream().mapToInt(text -> text.length).sum() / (double) files.size();
    }

    public boolean isSound() {
        return true;
    }
}
