import java.util.ArrayList;
import java.util.NoSuchElementException;

public final class Patchferry {
    private static final int MOST_FILES = 24;
    private static final int MOST_BYTES = 200;
    private static final int MOST_PATCHES = 20;
    private static final int MOST_LETTERS = 12;
    private static final int MOST_VERSIONS = 12;
    private static final int MOST_LAID = 10;
    private static final int MOST_COUNT = 99;
    private static final int HALF_BYTES = 100;
    private static final int LEAST_BLOCK = 2;
    private static final int MOST_BLOCK = 64;
    private static final int MOST_MODE = 3;
    private static final int SUM_BOUND = 1000003;
    /** More bytes than any choice takes. */
    private static final int ABOVE_ALL = 1000000000;
    /** A labelled program may be longer than a file before it is refused: 200 bytes, a count and 66 labels. */
    private static final int MOST_RUNS = 270;
    /** Merged and packed bytes may be as many as 400 before they are refused. */
    private static final int WORK_ROOM = 600;
    /** Two hundred operations of nine signs each are the longest text. */
    private static final int SIGN_ROOM = 2600;

    private final ArrayList<Row> texts = new ArrayList<Row>();
    private final ArrayList<Patch> patches = new ArrayList<Patch>();
    private final Row buffer = new Row(MOST_BYTES);
    private final StringBuilder word = new StringBuilder();
    private final Row work = new Row(WORK_ROOM);
    private final Row spare = new Row(WORK_ROOM);
    private final Row signs = new Row(SIGN_ROOM);
    private final Runs runs = new Runs();
    private final Differ differ = new Differ();
    private final Patch link = new Patch();
    private final Edits mine = new Edits();
    private final Edits theirs = new Edits();
    private final Store shelf = new Store();
    private final Blocks blocks = new Blocks();
    private final Program program = new Program();
    private final Disk disk = new Disk();
    private final Versions versions = new Versions();
    private final Tree tree = new Tree();
    private int lastClash = -1;

    public Patchferry() {
    }

    // ---- files

    public int type(int number) throws IllegalArgumentException, IllegalStateException {
        needByte(number);
        needBuffer(1);
        buffer.add(number);
        return buffer.size();
    }

    public int repeat(int number, int many) throws IllegalArgumentException, IllegalStateException {
        needByte(number);
        needMany(many);
        needBuffer(many);
        for (int k = 0; k < many; k++) {
            buffer.add(number);
        }
        return buffer.size();
    }

    public int quote(int file, int from, int many)
            throws IndexOutOfBoundsException, IllegalArgumentException, IllegalStateException {
        Row text = held(file);
        needMany(many);
        if (from < 0 || from > text.size() - many) {
            throw new IllegalArgumentException("the file has not so many bytes there");
        }
        needBuffer(many);
        for (int k = 0; k < many; k++) {
            buffer.add(text.get(from + k));
        }
        return buffer.size();
    }

    public int file() throws IllegalStateException {
        int number = keep(buffer);
        buffer.clear();
        return number;
    }

    public int length(int file) throws IndexOutOfBoundsException {
        return held(file).size();
    }

    public int at(int file, int place) throws IndexOutOfBoundsException {
        Row text = held(file);
        needIndex(place, text.size());
        return text.get(place);
    }

    public boolean isSame(int file, int other) throws IndexOutOfBoundsException {
        Row text = held(file);
        return text.matches(held(other));
    }

    public int letter(char letter) throws IllegalArgumentException, IllegalStateException {
        if (letter < 'a' || letter > 'z') {
            throw new IllegalArgumentException("no such letter");
        }
        if (word.length() >= MOST_LETTERS) {
            throw new IllegalStateException("the word is full");
        }
        word.append(letter);
        return word.length();
    }

    public int doWord() {
        String typed = word.toString();
        word.setLength(0);
        if (typed.equals("wipe")) {
            int had = buffer.size();
            buffer.clear();
            return had;
        }
        if (typed.equals("turn")) {
            buffer.turnRound();
        } else if (typed.equals("raise")) {
            buffer.raiseAll();
        } else if (typed.equals("half")) {
            buffer.resize(Math.min(buffer.size(), HALF_BYTES));
        } else {
            return -1;
        }
        return buffer.size();
    }

    // ---- ends and matches

    public int endAt(int file, int rank) throws IndexOutOfBoundsException {
        Row text = held(file);
        needIndex(rank, text.size());
        rankEnds(text, work);
        for (int place = 0; place < text.size(); place++) {
            if (work.get(place) == rank) {
                return place;
            }
        }
        return 0;
    }

    public int matchLength(int file, int other, int place) throws IndexOutOfBoundsException {
        seekMatch(file, other, place);
        return differ.foundSize;
    }

    public int matchPlace(int file, int other, int place) throws IndexOutOfBoundsException, NoSuchElementException {
        seekMatch(file, other, place);
        if (differ.foundSize == 0) {
            throw new NoSuchElementException("no match");
        }
        return differ.foundFrom;
    }

    public int slack(int file, int at, int other, int place) throws IndexOutOfBoundsException {
        Row old = held(file);
        Row young = held(other);
        needIndex(at, old.size() + 1);
        needIndex(place, young.size() + 1);
        differ.begin(old, young);
        differ.stretch(at, place);
        return differ.stretched;
    }

    // ---- patches

    public int make(int file, int other) throws IndexOutOfBoundsException, IllegalStateException {
        Row old = held(file);
        Row young = held(other);
        needPatchRoom();
        Patch made = new Patch();
        made.draw(differ, old, young);
        return keepPatch(made);
    }

    public int operations(int patch) throws IndexOutOfBoundsException {
        return known(patch).count();
    }

    public char kindOf(int patch, int operation) throws IndexOutOfBoundsException {
        Patch asked = known(patch);
        needIndex(operation, asked.count());
        return asked.fromAt(operation) < 0 ? 'x' : 'c';
    }

    public int fromOf(int patch, int operation) throws IndexOutOfBoundsException, NoSuchElementException {
        Patch asked = known(patch);
        needIndex(operation, asked.count());
        int from = asked.fromAt(operation);
        if (from < 0) {
            throw new NoSuchElementException("no copy");
        }
        return from;
    }

    public int lengthOf(int patch, int operation) throws IndexOutOfBoundsException {
        Patch asked = known(patch);
        needIndex(operation, asked.count());
        return asked.sizeAt(operation);
    }

    public char signAt(int patch, int index) throws IndexOutOfBoundsException {
        known(patch).writeSigns(signs);
        needIndex(index, signs.size());
        return (char) signs.get(index);
    }

    public int bytes(int patch) throws IndexOutOfBoundsException {
        return known(patch).taken();
    }

    public int apply(int patch, int file)
            throws IndexOutOfBoundsException, UnsupportedOperationException, IllegalStateException {
        Patch asked = known(patch);
        if (!held(file).matches(asked.base())) {
            throw new UnsupportedOperationException("the file is not its base");
        }
        asked.writeMade(work);
        return keep(work);
    }

    public int compose(int patch, int other)
            throws IndexOutOfBoundsException, UnsupportedOperationException, IllegalStateException {
        Patch first = known(patch);
        Patch second = known(other);
        first.writeMade(work);
        if (!work.matches(second.base())) {
            throw new UnsupportedOperationException("the second one has another base");
        }
        needPatchRoom();
        Patch made = new Patch();
        made.join(first, second);
        return keepPatch(made);
    }

    public int merge(int patch, int other)
            throws IndexOutOfBoundsException, UnsupportedOperationException, IllegalStateException {
        Patch first = known(patch);
        Patch second = known(other);
        if (!first.base().matches(second.base())) {
            throw new UnsupportedOperationException("they have not one base");
        }
        if (!mine.read(first) || !theirs.read(second)) {
            throw new UnsupportedOperationException("a copy goes back");
        }
        int clash = mine.clashWith(theirs);
        if (clash >= 0) {
            lastClash = clash;
            throw new UnsupportedOperationException("edits clash");
        }
        mine.blend(theirs, first.base(), work);
        return keep(work);
    }

    public int clash() throws NoSuchElementException {
        if (lastClash < 0) {
            throw new NoSuchElementException("no merge was refused for a clash");
        }
        return lastClash;
    }

    // ---- pieces and blocks

    public int pieces(int file) throws IndexOutOfBoundsException {
        needFile(file);
        return shelf.countOf(file);
    }

    public int pieceLength(int file, int piece) throws IndexOutOfBoundsException {
        needFile(file);
        needIndex(piece, shelf.countOf(file));
        return shelf.sizeOf(file, piece);
    }

    public int store(int file) throws IndexOutOfBoundsException, UnsupportedOperationException {
        needFile(file);
        if (shelf.isIn(file)) {
            throw new UnsupportedOperationException("the file is stored");
        }
        return shelf.takeIn(file);
    }

    public int drop(int file) throws IndexOutOfBoundsException, UnsupportedOperationException {
        needFile(file);
        if (!shelf.isIn(file)) {
            throw new UnsupportedOperationException("the file is not stored");
        }
        return shelf.takeOut(file);
    }

    public int collect() {
        return shelf.sweep();
    }

    public int stored() {
        return shelf.keptBytes();
    }

    public int likeness(int file, int other) throws IndexOutOfBoundsException {
        needFile(file);
        needFile(other);
        return shelf.alike(file, other);
    }

    public int setFolder(int file, int folder) throws IndexOutOfBoundsException, IllegalArgumentException {
        needFile(file);
        if (folder < 0 || folder > 2) {
            throw new IllegalArgumentException("no such folder");
        }
        return shelf.moveTo(file, folder);
    }

    public int renamed(int file) throws IndexOutOfBoundsException, NoSuchElementException {
        needFile(file);
        int old = shelf.oldOf(file);
        if (old < 0) {
            throw new NoSuchElementException("the file was none of the old folder");
        }
        return old;
    }

    public int literals(int file, int other, int length) throws IndexOutOfBoundsException, IllegalArgumentException {
        scanBlocks(file, other, length);
        return blocks.plain;
    }

    public int falseOnes(int file, int other, int length) throws IndexOutOfBoundsException, IllegalArgumentException {
        scanBlocks(file, other, length);
        return blocks.wrong;
    }

    public int wire(int file, int other, int length) throws IndexOutOfBoundsException, IllegalArgumentException {
        scanBlocks(file, other, length);
        return blocks.sent();
    }

    public int bestLength(int file, int other) throws IndexOutOfBoundsException {
        Row old = held(file);
        Row young = held(other);
        int best = LEAST_BLOCK;
        int least = ABOVE_ALL;
        for (int length = LEAST_BLOCK; length <= MOST_BLOCK; length = 2 * length) {
            blocks.scan(old, young, length);
            if (blocks.sent() < least) {
                least = blocks.sent();
                best = length;
            }
        }
        return best;
    }

    // ---- programs and packed files

    public int labels(int file) throws IndexOutOfBoundsException, NoSuchElementException {
        if (!program.read(held(file))) {
            throw new NoSuchElementException("no program");
        }
        return program.count();
    }

    public int label(int file) throws IndexOutOfBoundsException, UnsupportedOperationException, IllegalStateException {
        Row text = held(file);
        if (!program.read(text)) {
            throw new UnsupportedOperationException("no program");
        }
        program.writeLabelled(text, work);
        return keep(work);
    }

    public int unlabel(int file) throws IndexOutOfBoundsException, UnsupportedOperationException, IllegalStateException {
        if (!program.writePlain(held(file), work)) {
            throw new UnsupportedOperationException("no labelled program");
        }
        return keep(work);
    }

    public int labelledBytes(int file, int other) throws IndexOutOfBoundsException, NoSuchElementException {
        Row old = held(file);
        Row young = held(other);
        if (!writeLabelled(old, work) || !writeLabelled(young, spare)) {
            throw new NoSuchElementException("no program");
        }
        differ.begin(work, spare);
        return differ.tally();
    }

    public int pack(int file, int mode) throws IndexOutOfBoundsException, IllegalArgumentException, IllegalStateException {
        Row text = held(file);
        if (mode < 1 || mode > MOST_MODE) {
            throw new IllegalArgumentException("no such mode");
        }
        runs.read(text);
        runs.fold(mode, work);
        return keep(work);
    }

    public int unpack(int file) throws IndexOutOfBoundsException, UnsupportedOperationException, IllegalStateException {
        if (!runs.unfold(held(file))) {
            throw new UnsupportedOperationException("not packed");
        }
        // Unpacked bytes may be many thousand: their number is looked at before they are written out.
        needFileRoom(runs.total());
        runs.spell(work);
        return keep(work);
    }

    public int modeOf(int file) throws IndexOutOfBoundsException {
        return findMode(held(file));
    }

    public int insideBytes(int file, int other) throws IndexOutOfBoundsException {
        Row old = held(file);
        Row young = held(other);
        differ.begin(old, young);
        int outside = differ.tally();
        if (findMode(old) == 0 || findMode(young) == 0) {
            return outside;
        }
        differ.beginInside(old, young);
        return Math.min(outside, differ.tally() + 1);
    }

    // ---- in place

    public int load(int file) throws IndexOutOfBoundsException {
        Row text = held(file);
        disk.fill(text);
        return text.size();
    }

    public int setCut(int steps) throws IllegalArgumentException {
        if (steps < -1 || steps > MOST_LAID) {
            throw new IllegalArgumentException("no such number of steps");
        }
        return disk.tellCut(steps);
    }

    public int lay(int patch) throws IndexOutOfBoundsException, IllegalStateException, UnsupportedOperationException {
        Patch asked = known(patch);
        if (!disk.isAtRest()) {
            throw new IllegalStateException("a patch is half done");
        }
        if (asked.count() > MOST_LAID || !disk.has(asked.base())) {
            throw new UnsupportedOperationException("the patch can not be laid over this disk");
        }
        disk.start(asked);
        return disk.run();
    }

    public int goOn() throws IllegalStateException {
        if (disk.isAtRest()) {
            throw new IllegalStateException("no patch is half done");
        }
        return disk.run();
    }

    public boolean isWhole() {
        return disk.isAtRest();
    }

    public int savedBytes() throws NoSuchElementException {
        if (!disk.wasLaid()) {
            throw new NoSuchElementException("no patch was begun");
        }
        return disk.savedCount();
    }

    public int orderAt(int index) throws IndexOutOfBoundsException {
        needIndex(index, disk.orderCount());
        return disk.ordered(index);
    }

    public int diskLength() {
        return disk.size();
    }

    public int onDisk(int place) throws IndexOutOfBoundsException {
        needIndex(place, disk.size());
        return disk.get(place);
    }

    public boolean isOn(int file) throws IndexOutOfBoundsException {
        return disk.has(held(file));
    }

    // ---- versions

    public int version(int file) throws IndexOutOfBoundsException, IllegalStateException {
        Row text = held(file);
        if (versions.count() >= MOST_VERSIONS) {
            throw new IllegalStateException("there are 12 versions");
        }
        return versions.enter(text);
    }

    public boolean setKey(int version, boolean is) throws IndexOutOfBoundsException, UnsupportedOperationException {
        needIndex(version, versions.count());
        if (version == 0 && !is) {
            throw new UnsupportedOperationException("the first one stays a key");
        }
        return versions.tellKey(version, is);
    }

    public int fetch(int version) throws IndexOutOfBoundsException {
        needIndex(version, versions.count());
        int key = versions.lastKey(version);
        return versions.textOf(key).size() + versions.walk(differ, key, version);
    }

    public int route(int version, int other) throws IndexOutOfBoundsException {
        needIndex(version, versions.count());
        needIndex(other, versions.count());
        if (version == other) {
            return 0;
        }
        int whole = versions.textOf(other).size();
        int direct = versions.cost(differ, version, other);
        int along = versions.walk(differ, version, other);
        return Math.min(whole, Math.min(direct, along));
    }

    public int chain(int version, int other)
            throws IndexOutOfBoundsException, IllegalArgumentException, IllegalStateException {
        needIndex(version, versions.count());
        needIndex(other, versions.count());
        if (other <= version) {
            throw new IllegalArgumentException("the other one is not later");
        }
        needPatchRoom();
        Patch made = new Patch();
        Patch joined = new Patch();
        made.draw(differ, versions.textOf(version), versions.textOf(version + 1));
        for (int next = version + 1; next < other; next++) {
            link.draw(differ, versions.textOf(next), versions.textOf(next + 1));
            joined.join(made, link);
            Patch former = made;
            made = joined;
            joined = former;
        }
        return keepPatch(made);
    }

    public int setCount(int version, int count) throws IndexOutOfBoundsException, IllegalArgumentException {
        needIndex(version, versions.count());
        if (count < 0 || count > MOST_COUNT) {
            throw new IllegalArgumentException("no such count");
        }
        return versions.tellCount(version, count);
    }

    public int fleet(int many) throws NoSuchElementException, IllegalArgumentException {
        if (versions.count() == 0) {
            throw new NoSuchElementException("no versions");
        }
        if (many < 0 || many > MOST_VERSIONS) {
            throw new IllegalArgumentException("no such number of patches");
        }
        return versions.fleetBytes(differ, many);
    }

    // ---- trees of sums and figures

    public long rootOf(int file) throws IndexOutOfBoundsException {
        return tree.root(held(file));
    }

    public boolean proves(int file, int mirror, int leaf)
            throws IndexOutOfBoundsException, UnsupportedOperationException {
        Row text = held(file);
        Row image = held(mirror);
        needIndex(leaf, tree.leaves(text));
        needAsManyLeaves(text, image);
        return tree.provesLeaf(text, image, leaf);
    }

    public int liar(int file, int mirror) throws IndexOutOfBoundsException, UnsupportedOperationException {
        Row text = held(file);
        Row image = held(mirror);
        needAsManyLeaves(text, image);
        for (int leaf = 0; leaf < tree.leaves(text); leaf++) {
            if (!tree.provesLeaf(text, image, leaf)) {
                return leaf;
            }
        }
        return -1;
    }

    public int files() {
        return texts.size();
    }

    public long sumOf(int file) throws IndexOutOfBoundsException {
        Row text = held(file);
        return text.strongSum(1, 0, text.size());
    }

    public float share(int patch) throws IndexOutOfBoundsException, NoSuchElementException {
        Patch asked = known(patch);
        int made = asked.madeSize();
        if (made == 0) {
            throw new NoSuchElementException("the patch makes nothing");
        }
        return (float) asked.taken() / (float) made;
    }

    public double meanLength() throws NoSuchElementException {
        int many = texts.size();
        if (many == 0) {
            throw new NoSuchElementException("no files");
        }
        int sum = 0;
        for (int k = 0; k < many; k++) {
            sum += texts.get(k).size();
        }
        return (double) sum / (double) many;
    }

    public boolean isSound() {
        for (int k = 0; k < texts.size(); k++) {
            if (!comesBackLabelled(texts.get(k)) || !comesBackPacked(texts.get(k))) {
                return false;
            }
        }
        return versionsStand() && shelf.usesStand() && diskStands();
    }

    // ---- what isSound looks at

    private boolean comesBackLabelled(Row text) {
        if (!writeLabelled(text, work)) {
            return true;
        }
        return program.writePlain(work, spare) && spare.matches(text);
    }

    private boolean comesBackPacked(Row text) {
        for (int mode = 1; mode <= MOST_MODE; mode++) {
            runs.read(text);
            runs.fold(mode, work);
            if (!runs.unfold(work) || runs.total() != text.size()) {
                return false;
            }
            runs.spell(spare);
            if (!spare.matches(text)) {
                return false;
            }
        }
        return true;
    }

    private boolean versionsStand() {
        for (int next = 1; next < versions.count(); next++) {
            Row young = versions.textOf(next);
            link.draw(differ, versions.textOf(next - 1), young);
            link.writeMade(work);
            if (!work.matches(young)) {
                return false;
            }
        }
        return true;
    }

    private boolean diskStands() {
        if (!disk.wasLaid() || !disk.isAtRest()) {
            return true;
        }
        disk.laidPatch().writeMade(work);
        return disk.has(work);
    }

    // ---- common steps of the face

    private int keep(Row text) {
        needFileRoom(text.size());
        Row kept = text.copy();
        texts.add(kept);
        shelf.enter(kept);
        return texts.size() - 1;
    }

    private int keepPatch(Patch made) {
        patches.add(made);
        return patches.size() - 1;
    }

    private void rankEnds(Row text, Row ranks) {
        ranks.clear();
        ranks.resize(text.size());
        for (int gap = 1; gap < text.size(); gap++) {
            // From the back on: where two bytes are alike, the ends behind them have been compared already.
            boolean laterIsLess = true;
            for (int place = text.size() - 1 - gap; place >= 0; place--) {
                int sooner = text.get(place);
                int later = text.get(place + gap);
                if (sooner != later) {
                    laterIsLess = later < sooner;
                }
                int greater = laterIsLess ? place : place + gap;
                ranks.set(greater, ranks.get(greater) + 1);
            }
        }
    }

    private void seekMatch(int file, int other, int place) {
        Row old = held(file);
        Row young = held(other);
        needIndex(place, young.size());
        differ.begin(old, young);
        differ.seek(place);
    }

    private void scanBlocks(int file, int other, int length) {
        Row old = held(file);
        Row young = held(other);
        if (length < LEAST_BLOCK || length > MOST_BLOCK) {
            throw new IllegalArgumentException("no such length of a block");
        }
        blocks.scan(old, young, length);
    }

    private boolean writeLabelled(Row text, Row labelled) {
        if (!program.read(text)) {
            return false;
        }
        program.writeLabelled(text, labelled);
        return true;
    }

    private int findMode(Row text) {
        if (!runs.unfold(text)) {
            return 0;
        }
        for (int mode = 1; mode <= MOST_MODE; mode++) {
            runs.fold(mode, work);
            if (work.matches(text)) {
                return mode;
            }
        }
        return 0;
    }

    // ---- what the document refuses

    private Row held(int file) {
        if (file < 0 || file >= texts.size()) {
            throw new IndexOutOfBoundsException("no such file");
        }
        return texts.get(file);
    }

    private void needFile(int file) {
        if (file < 0 || file >= texts.size()) {
            throw new IndexOutOfBoundsException("no such file");
        }
    }

    private Patch known(int patch) {
        if (patch < 0 || patch >= patches.size()) {
            throw new IndexOutOfBoundsException("no such patch");
        }
        return patches.get(patch);
    }

    private void needIndex(int index, int count) {
        if (index < 0 || index >= count) {
            throw new IndexOutOfBoundsException("no such index");
        }
    }

    private void needByte(int number) {
        if (number < 0 || number > 255) {
            throw new IllegalArgumentException("no byte");
        }
    }

    private void needMany(int many) {
        if (many < 1 || many > MOST_BYTES) {
            throw new IllegalArgumentException("no such number of bytes");
        }
    }

    private void needBuffer(int many) {
        if (buffer.size() + many > MOST_BYTES) {
            throw new IllegalStateException("the buffer would be too long");
        }
    }

    private void needFileRoom(int size) {
        if (texts.size() >= MOST_FILES || size > MOST_BYTES) {
            throw new IllegalStateException("there are 24 files, or this one would be too long");
        }
    }

    private void needPatchRoom() {
        if (patches.size() >= MOST_PATCHES) {
            throw new IllegalStateException("there are 20 patches");
        }
    }

    private void needAsManyLeaves(Row text, Row image) {
        if (tree.leaves(text) != tree.leaves(image)) {
            throw new UnsupportedOperationException("they have not as many leaves");
        }
    }

    /** Numbers one behind the other. Arrays are touched here alone, so that each index is tested in one place. */
    static final class Row {
        private final int[] cells;
        private int size;

        Row(int room) {
            cells = new int[Math.max(room, 0)];
        }

        int size() {
            return size;
        }

        int get(int place) {
            return place >= 0 && place < size ? cells[place] : 0;
        }

        void set(int place, int value) {
            if (place >= 0 && place < size) {
                cells[place] = value;
            }
        }

        void add(int value) {
            if (size < cells.length) {
                cells[size] = value;
                size++;
            }
        }

        void clear() {
            size = 0;
        }

        /** New numbers at the end are 0. */
        void resize(int wanted) {
            int next = Math.max(0, Math.min(wanted, cells.length));
            for (int place = size; place < next; place++) {
                cells[place] = 0;
            }
            size = next;
        }

        Row copy() {
            Row other = new Row(size);
            other.copyFrom(this);
            return other;
        }

        void copyFrom(Row other) {
            clear();
            for (int place = 0; place < other.size; place++) {
                add(other.get(place));
            }
        }

        boolean matches(Row other) {
            return size == other.size && agrees(0, other, 0, size);
        }

        boolean agrees(int from, Row other, int otherFrom, int many) {
            for (int k = 0; k < many; k++) {
                if (get(from + k) != other.get(otherFrom + k)) {
                    return false;
                }
            }
            return true;
        }

        void turnRound() {
            for (int place = 0; place < size / 2; place++) {
                int kept = get(place);
                set(place, get(size - 1 - place));
                set(size - 1 - place, kept);
            }
        }

        void raiseAll() {
            for (int place = 0; place < size; place++) {
                set(place, (get(place) + 1) & 255);
            }
        }

        int strongSum(int first, int from, int many) {
            int sum = first;
            for (int k = 0; k < many; k++) {
                sum = (257 * sum + get(from + k) + 1) % SUM_BOUND;
            }
            return sum;
        }

        int weakSum(int from, int many) {
            int sum = 0;
            for (int k = 0; k < many; k++) {
                sum += get(from + k);
            }
            return sum & 255;
        }
    }

    /** Bytes as runs of like ones: what 200 packed bytes unpack to may be 16832 bytes, but never more than 200 runs. */
    static final class Runs {
        private static final int MARK = 255;
        private static final int MOST_AT_ONCE = 255;

        private final Row values = new Row(MOST_RUNS);
        private final Row ends = new Row(MOST_RUNS);

        int count() {
            return values.size();
        }

        int value(int run) {
            return values.get(run);
        }

        int end(int run) {
            return ends.get(run);
        }

        int begin(int run) {
            return ends.get(run - 1);
        }

        int total() {
            return ends.get(ends.size() - 1);
        }

        void put(int value, int many) {
            int last = values.size() - 1;
            int end = ends.get(last) + many;
            if (last >= 0 && values.get(last) == value) {
                ends.set(last, end);
                return;
            }
            values.add(value);
            ends.add(end);
        }

        void clear() {
            values.clear();
            ends.clear();
        }

        void read(Row text) {
            clear();
            for (int place = 0; place < text.size(); place++) {
                put(text.get(place), 1);
            }
        }

        /** The run in which a place lies; behind the last byte, as many as there are. */
        int runAt(int place) {
            int low = 0;
            int high = ends.size();
            while (low < high) {
                int middle = (low + high) / 2;
                if (ends.get(middle) > place) {
                    high = middle;
                } else {
                    low = middle + 1;
                }
            }
            return low;
        }

        /** How many bytes are alike from the beginnings of two runs on. */
        int alikeFrom(int run, Runs other, int otherRun) {
            int alike = 0;
            for (int k = 0; run + k < values.size() && otherRun + k < other.values.size(); k++) {
                if (values.get(run + k) != other.values.get(otherRun + k)) {
                    return alike;
                }
                int here = ends.get(run + k) - ends.get(run + k - 1);
                int there = other.ends.get(otherRun + k) - other.ends.get(otherRun + k - 1);
                alike += Math.min(here, there);
                if (here != there) {
                    return alike;
                }
            }
            return alike;
        }

        /** Reads what packed bytes unpack to; false if they are not packed. */
        boolean unfold(Row packed) {
            clear();
            int place = 0;
            while (place < packed.size()) {
                int value = packed.get(place);
                if (value != MARK) {
                    put(value, 1);
                    place++;
                    continue;
                }
                int many = packed.get(place + 1);
                if (place + 2 >= packed.size() || many == 0) {
                    return false;
                }
                put(packed.get(place + 2), many);
                place += 3;
            }
            return true;
        }

        void fold(int mode, Row packed) {
            packed.clear();
            for (int run = 0; run < count(); run++) {
                int value = value(run);
                int left = end(run) - begin(run);
                while (left > 0) {
                    int many = Math.min(left, MOST_AT_ONCE);
                    foldPart(value, many, value == MARK || many > mode, packed);
                    left -= many;
                }
            }
        }

        private void foldPart(int value, int many, boolean isShortened, Row packed) {
            if (isShortened) {
                packed.add(MARK);
                packed.add(many);
                packed.add(value);
                return;
            }
            for (int k = 0; k < many; k++) {
                packed.add(value);
            }
        }

        void spell(Row text) {
            text.clear();
            for (int run = 0; run < count(); run++) {
                for (int place = begin(run); place < end(run); place++) {
                    text.add(value(run));
                }
            }
        }
    }

    /** Finds the operations that make a new file of an old one, one after the other. */
    static final class Differ {
        private static final int LEAST_MATCH = 4;

        private final Runs before = new Runs();
        private final Runs after = new Runs();
        private int spot;
        private int foundSize;
        private int foundFrom;
        private int stretched;
        private int unlike;
        private int from;
        private int size;
        private int changed;

        void begin(Row old, Row young) {
            before.read(old);
            after.read(young);
            spot = 0;
        }

        void beginInside(Row old, Row young) {
            before.unfold(old);
            after.unfold(young);
            spot = 0;
        }

        int from() {
            return from;
        }

        int size() {
            return size;
        }

        /** Finds the longest match, run by run: all that begin in one old run are judged at once. */
        void seek(int place) {
            foundSize = 0;
            foundFrom = 0;
            if (place >= after.total()) {
                return;
            }
            int run = after.runAt(place);
            int value = after.value(run);
            int rest = after.end(run) - place;
            for (int old = 0; old < before.count(); old++) {
                if (before.value(old) != value) {
                    continue;
                }
                int have = before.end(old) - before.begin(old);
                int more = have < rest ? 0 : before.alikeFrom(old + 1, after, run + 1);
                int reach = Math.min(have, rest) + more;
                if (reach > foundSize) {
                    foundSize = reach;
                    // Only what ends with the old run can go on behind it.
                    foundFrom = more == 0 ? before.begin(old) : before.end(old) - rest;
                }
            }
        }

        /** Finds the slack from two places on. */
        void stretch(int at, int place) {
            stretched = 0;
            unlike = 0;
            int old = before.runAt(at);
            int young = after.runAt(place);
            int taken = 0;
            int alike = 0;
            int best = 0;
            while (old < before.count() && young < after.count()) {
                int oldLeft = before.end(old) - at - taken;
                int youngLeft = after.end(young) - place - taken;
                int part = Math.min(oldLeft, youngLeft);
                if (before.value(old) == after.value(young)) {
                    alike += part;
                }
                taken += part;
                if (2 * alike - taken > best) {
                    best = 2 * alike - taken;
                    stretched = taken;
                    unlike = taken - alike;
                }
                old += oldLeft <= part ? 1 : 0;
                young += youngLeft <= part ? 1 : 0;
            }
        }

        /** Finds the next operation; false behind the last one. */
        boolean next() {
            int begin = spot;
            if (begin >= after.total()) {
                return false;
            }
            seek(begin);
            if (foundSize >= LEAST_MATCH) {
                stretch(foundFrom + foundSize, begin + foundSize);
                from = foundFrom;
                size = foundSize + stretched;
                changed = unlike;
                spot = begin + size;
                return true;
            }
            while (spot < after.total() && foundSize < LEAST_MATCH) {
                // Four like bytes or more without a match: none of this run has one, as long as four are left of it.
                int run = after.runAt(spot);
                spot = Math.max(spot + 1, after.end(run) - LEAST_MATCH + 1);
                seek(spot);
            }
            from = -1;
            size = spot - begin;
            changed = 0;
            return true;
        }

        /** What the whole patch takes. */
        int tally() {
            int taken = Patch.HEAD_BYTES;
            int end = 0;
            int most = after.total();
            for (int step = 0; step < most && next(); step++) {
                taken += Patch.costOf(from, size, changed, end);
                end = from < 0 ? end : from + size;
            }
            return taken;
        }
    }

    /** Operations over a base: for each byte that they make, what is added to the copied one, or the extra one. */
    static final class Patch {
        private static final int HEAD_BYTES = 8;

        private final Row froms = new Row(MOST_BYTES);
        private final Row sizes = new Row(MOST_BYTES);
        private final Row adds = new Row(MOST_BYTES);
        private Row base = new Row(0);

        int count() {
            return froms.size();
        }

        /** The place from which an operation copies; -1 for an extra one. */
        int fromAt(int operation) {
            return froms.get(operation);
        }

        int sizeAt(int operation) {
            return sizes.get(operation);
        }

        int addAt(int place) {
            return adds.get(place);
        }

        int madeSize() {
            return adds.size();
        }

        Row base() {
            return base;
        }

        void draw(Differ differ, Row old, Row young) {
            restart(old);
            differ.begin(old, young);
            int place = 0;
            for (int step = 0; step < young.size() && differ.next(); step++) {
                int from = differ.from();
                addOperation(from, differ.size());
                for (int k = 0; k < differ.size(); k++) {
                    int copied = from < 0 ? 0 : old.get(from + k);
                    adds.add((young.get(place) - copied) & 255);
                    place++;
                }
            }
        }

        void join(Patch first, Patch second) {
            restart(first.base);
            int begin = 0;
            for (int operation = 0; operation < second.count(); operation++) {
                int from = second.fromAt(operation);
                int many = second.sizeAt(operation);
                if (from < 0) {
                    addOperation(-1, many);
                    for (int k = 0; k < many; k++) {
                        adds.add(second.addAt(begin + k));
                    }
                } else {
                    joinCopy(first, second, begin, from, many);
                }
                begin += many;
            }
        }

        private void joinCopy(Patch first, Patch second, int begin, int from, int many) {
            int low = 0;
            for (int operation = 0; operation < first.count(); operation++) {
                int high = low + first.sizeAt(operation);
                int left = Math.max(low, from);
                int right = Math.min(high, from + many);
                if (left < right) {
                    int source = first.fromAt(operation);
                    addOperation(source < 0 ? -1 : source + left - low, right - left);
                    for (int place = left; place < right; place++) {
                        adds.add((first.addAt(place) + second.addAt(begin + place - from)) & 255);
                    }
                }
                low = high;
            }
        }

        private void restart(Row over) {
            base = over;
            froms.clear();
            sizes.clear();
            adds.clear();
        }

        private void addOperation(int from, int many) {
            froms.add(from);
            sizes.add(many);
        }

        void writeMade(Row made) {
            made.clear();
            int place = 0;
            for (int operation = 0; operation < count(); operation++) {
                int from = fromAt(operation);
                for (int k = 0; k < sizeAt(operation); k++) {
                    int copied = from < 0 ? 0 : base.get(from + k);
                    made.add((copied + addAt(place)) & 255);
                    place++;
                }
            }
        }

        int taken() {
            int sum = HEAD_BYTES;
            int begin = 0;
            int end = 0;
            for (int operation = 0; operation < count(); operation++) {
                int from = fromAt(operation);
                int many = sizeAt(operation);
                sum += costOf(from, many, changedIn(operation, begin), end);
                begin += many;
                end = from < 0 ? end : from + many;
            }
            return sum;
        }

        private int changedIn(int operation, int begin) {
            int changed = 0;
            for (int k = 0; k < sizeAt(operation) && fromAt(operation) >= 0; k++) {
                changed += addAt(begin + k) == 0 ? 0 : 1;
            }
            return changed;
        }

        void writeSigns(Row signs) {
            signs.clear();
            int begin = 0;
            for (int operation = 0; operation < count(); operation++) {
                if (operation > 0) {
                    signs.add(' ');
                }
                int from = fromAt(operation);
                int changed = changedIn(operation, begin);
                signs.add(from < 0 ? 'x' : 'c');
                if (from >= 0) {
                    writeNumber(from, signs);
                    signs.add('+');
                }
                writeNumber(sizeAt(operation), signs);
                if (changed > 0) {
                    signs.add('!');
                    writeNumber(changed, signs);
                }
                begin += sizeAt(operation);
            }
        }

        private static void writeNumber(int number, Row signs) {
            if (number >= 100) {
                signs.add('0' + number / 100 % 10);
            }
            if (number >= 10) {
                signs.add('0' + number / 10 % 10);
            }
            signs.add('0' + number % 10);
        }

        static int costOf(int from, int many, int changed, int end) {
            int cost = 1 + numberBytes(many);
            if (from < 0) {
                return cost + many;
            }
            int jump = from - end;
            return cost + numberBytes(jump < 0 ? -2 * jump - 1 : 2 * jump) + 2 * changed;
        }

        private static int numberBytes(int number) {
            int many = 1;
            for (int rest = number >> 7; rest > 0; rest = rest >> 7) {
                many++;
            }
            return many;
        }
    }

    /** The edits of a patch, by rising places of its base. */
    static final class Edits {
        private static final int MOST_EDITS = 402;

        private final Row froms = new Row(MOST_EDITS);
        private final Row tos = new Row(MOST_EDITS);
        private final Row begins = new Row(MOST_EDITS);
        private final Row values = new Row(MOST_BYTES);

        /** False if a copy goes back. */
        boolean read(Patch patch) {
            froms.clear();
            tos.clear();
            begins.clear();
            values.clear();
            int end = 0;
            int place = 0;
            int gapBegin = 0;
            for (int operation = 0; operation < patch.count(); operation++) {
                int from = patch.fromAt(operation);
                int many = patch.sizeAt(operation);
                if (from < 0) {
                    for (int k = 0; k < many; k++) {
                        values.add(patch.addAt(place + k));
                    }
                } else if (from < end) {
                    return false;
                } else {
                    closeGap(end, from, gapBegin);
                    readChanged(patch, place, from, many);
                    end = from + many;
                    gapBegin = values.size();
                }
                place += many;
            }
            closeGap(end, patch.base().size(), gapBegin);
            return true;
        }

        private void closeGap(int from, int to, int begin) {
            if (from < to || begin < values.size()) {
                enter(from, to, begin);
            }
        }

        private void readChanged(Patch patch, int place, int from, int many) {
            for (int k = 0; k < many; k++) {
                int added = patch.addAt(place + k);
                if (added != 0) {
                    enter(from + k, from + k + 1, values.size());
                    values.add((patch.base().get(from + k) + added) & 255);
                }
            }
        }

        private void enter(int from, int to, int begin) {
            froms.add(from);
            tos.add(to);
            begins.add(begin);
        }

        private int valuesEnd(int edit) {
            return edit + 1 < begins.size() ? begins.get(edit + 1) : values.size();
        }

        private boolean isLike(int edit, Edits other, int otherEdit) {
            int begin = begins.get(edit);
            int many = valuesEnd(edit) - begin;
            int otherBegin = other.begins.get(otherEdit);
            return froms.get(edit) == other.froms.get(otherEdit)
                    && tos.get(edit) == other.tos.get(otherEdit)
                    && many == other.valuesEnd(otherEdit) - otherBegin
                    && values.agrees(begin, other.values, otherBegin, many);
        }

        /** The lowest place at which edits that are not the same touch, or -1. */
        int clashWith(Edits other) {
            int lowest = -1;
            for (int edit = 0; edit < froms.size(); edit++) {
                for (int otherEdit = 0; otherEdit < other.froms.size(); otherEdit++) {
                    int begun = Math.max(froms.get(edit), other.froms.get(otherEdit));
                    int ended = Math.min(tos.get(edit), other.tos.get(otherEdit));
                    boolean isLower = lowest < 0 || begun < lowest;
                    if (begun <= ended && isLower && !isLike(edit, other, otherEdit)) {
                        lowest = begun;
                    }
                }
            }
            return lowest;
        }

        /** Writes the base with the edits of both; they must not clash. */
        void blend(Edits other, Row base, Row made) {
            made.clear();
            int place = 0;
            int edit = 0;
            int otherEdit = 0;
            while (edit < froms.size() || otherEdit < other.froms.size()) {
                boolean isMine = edit < froms.size();
                boolean isTheirs = otherEdit < other.froms.size();
                if (isMine && isTheirs && isLike(edit, other, otherEdit)) {
                    otherEdit++;
                } else if (isMine && isTheirs) {
                    isMine = froms.get(edit) < other.froms.get(otherEdit);
                }
                if (isMine) {
                    place = writeEdit(edit, base, place, made);
                    edit++;
                } else {
                    place = other.writeEdit(otherEdit, base, place, made);
                    otherEdit++;
                }
            }
            writePart(base, place, base.size(), made);
        }

        /** Writes the base up to an edit and what stands in its place; returns where the base goes on. */
        private int writeEdit(int edit, Row base, int place, Row made) {
            writePart(base, place, froms.get(edit), made);
            writePart(values, begins.get(edit), valuesEnd(edit), made);
            return tos.get(edit);
        }

        private void writePart(Row source, int from, int to, Row made) {
            for (int place = from; place < to; place++) {
                made.add(source.get(place));
            }
        }
    }

    /** Files cut into pieces. Like pieces have one number over all files, so that they are compared but once. */
    static final class Store {
        private static final int LEAST_PIECE = 4;
        private static final int MOST_PIECE = 32;
        private static final int CUT_ROLL = 7;
        private static final int MOST_PIECES = MOST_FILES * MOST_BYTES / LEAST_PIECE;
        private static final int OLD_FOLDER = 1;
        private static final int NEW_FOLDER = 2;
        private static final int LEAST_LIKENESS = 50;

        private final ArrayList<Row> texts = new ArrayList<Row>();
        private final ArrayList<Row> cuts = new ArrayList<Row>();
        private final Row none = new Row(0);
        private final Row homes = new Row(MOST_PIECES);
        private final Row starts = new Row(MOST_PIECES);
        private final Row sizes = new Row(MOST_PIECES);
        private final Row sums = new Row(MOST_PIECES);
        private final Row uses = new Row(MOST_PIECES);
        private final Row kept = new Row(MOST_PIECES);
        private final Row isStored = new Row(MOST_FILES);
        private final Row folders = new Row(MOST_FILES);
        private final Row numbers = new Row(MOST_BYTES);
        private final Row marks = new Row(MOST_PIECES);
        private final Row grid = new Row(MOST_FILES * MOST_FILES);

        void enter(Row text) {
            int home = texts.size();
            texts.add(text);
            isStored.add(0);
            folders.add(0);
            numbers.clear();
            int start = 0;
            for (int place = 0; place < text.size(); place++) {
                int many = place + 1 - start;
                if (place + 1 == text.size() || isCut(text, place, many)) {
                    numbers.add(numberOf(text, home, start, many));
                    start = place + 1;
                }
            }
            cuts.add(numbers.copy());
        }

        private boolean isCut(Row text, int place, int many) {
            int roll = 8 * text.get(place - 3) + 4 * text.get(place - 2) + 2 * text.get(place - 1) + text.get(place);
            return many >= MOST_PIECE || many >= LEAST_PIECE && roll % 8 == CUT_ROLL;
        }

        private int numberOf(Row text, int home, int start, int many) {
            int sum = text.strongSum(0, start, many);
            for (int piece = 0; piece < sums.size(); piece++) {
                if (sums.get(piece) == sum && sizes.get(piece) == many) {
                    Row like = textOf(homes.get(piece));
                    if (like.agrees(starts.get(piece), text, start, many)) {
                        return piece;
                    }
                }
            }
            homes.add(home);
            starts.add(start);
            sizes.add(many);
            sums.add(sum);
            uses.add(0);
            kept.add(0);
            marks.add(0);
            return sums.size() - 1;
        }

        /** Numbers of files come here tested; the empty row stands for none. */
        private Row textOf(int file) {
            return file >= 0 && file < texts.size() ? texts.get(file) : none;
        }

        private Row cutOf(int file) {
            return file >= 0 && file < cuts.size() ? cuts.get(file) : none;
        }

        int countOf(int file) {
            return cutOf(file).size();
        }

        int sizeOf(int file, int index) {
            return sizes.get(cutOf(file).get(index));
        }

        boolean isIn(int file) {
            return isStored.get(file) == 1;
        }

        int takeIn(int file) {
            Row cut = cutOf(file);
            int fresh = 0;
            for (int index = 0; index < cut.size(); index++) {
                int piece = cut.get(index);
                fresh += kept.get(piece) == 1 ? 0 : sizes.get(piece);
                kept.set(piece, 1);
                uses.set(piece, uses.get(piece) + 1);
            }
            isStored.set(file, 1);
            return fresh;
        }

        int takeOut(int file) {
            Row cut = cutOf(file);
            for (int index = 0; index < cut.size(); index++) {
                int piece = cut.get(index);
                uses.set(piece, uses.get(piece) - 1);
            }
            isStored.set(file, 0);
            int many = 0;
            for (int piece = 0; piece < kept.size(); piece++) {
                many += kept.get(piece);
            }
            return many;
        }

        int sweep() {
            int freed = 0;
            for (int piece = 0; piece < kept.size(); piece++) {
                if (kept.get(piece) == 1 && uses.get(piece) == 0) {
                    kept.set(piece, 0);
                    freed += sizes.get(piece);
                }
            }
            return freed;
        }

        int keptBytes() {
            int sum = 0;
            for (int piece = 0; piece < kept.size(); piece++) {
                sum += kept.get(piece) * sizes.get(piece);
            }
            return sum;
        }

        int alike(int file, int other) {
            int lengths = textOf(file).size() + textOf(other).size();
            if (lengths == 0) {
                return 0;
            }
            Row cut = cutOf(file);
            Row otherCut = cutOf(other);
            countPieces(otherCut);
            int common = 0;
            for (int index = 0; index < cut.size(); index++) {
                int piece = cut.get(index);
                if (marks.get(piece) > 0) {
                    marks.set(piece, marks.get(piece) - 1);
                    common += sizes.get(piece);
                }
            }
            forgetPieces(otherCut);
            return 200 * common / lengths;
        }

        /** Counts how often each piece stands in a cut; all are 0 between two calls. */
        private void countPieces(Row cut) {
            for (int index = 0; index < cut.size(); index++) {
                int piece = cut.get(index);
                marks.set(piece, marks.get(piece) + 1);
            }
        }

        private void forgetPieces(Row cut) {
            for (int index = 0; index < cut.size(); index++) {
                marks.set(cut.get(index), 0);
            }
        }

        int moveTo(int file, int folder) {
            int former = folders.get(file);
            folders.set(file, folder);
            return former;
        }

        /** The old file that a new one was, or -1. */
        int oldOf(int file) {
            if (folders.get(file) != NEW_FOLDER) {
                return -1;
            }
            fillGrid();
            for (int round = 0; round < MOST_FILES; round++) {
                int pair = bestPair();
                if (pair < 0) {
                    return -1;
                }
                int old = pair / MOST_FILES;
                int young = pair % MOST_FILES;
                if (young == file) {
                    return old;
                }
                takePair(old, young);
            }
            return -1;
        }

        private void fillGrid() {
            grid.clear();
            for (int old = 0; old < MOST_FILES; old++) {
                for (int young = 0; young < MOST_FILES; young++) {
                    boolean isPair = folders.get(old) == OLD_FOLDER && folders.get(young) == NEW_FOLDER;
                    grid.add(isPair ? alike(old, young) : 0);
                }
            }
        }

        private int bestPair() {
            int best = -1;
            int most = LEAST_LIKENESS - 1;
            for (int pair = 0; pair < grid.size(); pair++) {
                if (grid.get(pair) > most) {
                    most = grid.get(pair);
                    best = pair;
                }
            }
            return best;
        }

        private void takePair(int old, int young) {
            for (int k = 0; k < MOST_FILES; k++) {
                grid.set(old * MOST_FILES + k, 0);
                grid.set(k * MOST_FILES + young, 0);
            }
        }

        /** Counts anew how often each piece is used, and looks whether each used one is kept. */
        boolean usesStand() {
            for (int file = 0; file < cuts.size(); file++) {
                if (isIn(file)) {
                    countPieces(cutOf(file));
                }
            }
            boolean stand = true;
            for (int piece = 0; piece < sums.size(); piece++) {
                boolean isLost = marks.get(piece) > 0 && kept.get(piece) == 0;
                stand = stand && !isLost && marks.get(piece) == uses.get(piece);
                marks.set(piece, 0);
            }
            return stand;
        }
    }

    /** A new file looked through for the blocks of an old one. */
    static final class Blocks {
        private static final int BLOCK_BYTES = 6;
        private static final int USE_BYTES = 3;

        private final Row weaks = new Row(MOST_BYTES);
        private final Row strongs = new Row(MOST_BYTES);
        private int plain;
        private int wrong;
        private int used;

        void scan(Row old, Row young, int length) {
            weaks.clear();
            strongs.clear();
            plain = 0;
            wrong = 0;
            used = 0;
            // A block of no bytes would never end.
            int step = Math.max(length, LEAST_BLOCK);
            for (int from = 0; from + step <= old.size(); from += step) {
                weaks.add(old.weakSum(from, step));
                strongs.add(old.strongSum(0, from, step));
            }
            int place = 0;
            while (place + step <= young.size()) {
                if (isBlock(young, place, step)) {
                    used++;
                    place += step;
                } else {
                    plain++;
                    place++;
                }
            }
            plain += young.size() - place;
        }

        private boolean isBlock(Row young, int place, int length) {
            int weak = young.weakSum(place, length);
            int strong = -1;
            for (int block = 0; block < weaks.size(); block++) {
                if (weaks.get(block) != weak) {
                    continue;
                }
                if (strong < 0) {
                    strong = young.strongSum(0, place, length);
                }
                if (strongs.get(block) == strong) {
                    return true;
                }
                wrong++;
            }
            return false;
        }

        int sent() {
            return BLOCK_BYTES * weaks.size() + plain + USE_BYTES * used;
        }
    }

    /** The labels of a program. */
    static final class Program {
        private static final int FIRST_JUMP = 200;
        private static final int LAST_JUMP = 203;
        private static final int JUMP_BYTES = 3;

        private final Row marks = new Row(MOST_BYTES + 1);
        private final Row places = new Row(MOST_BYTES + 1);

        private static boolean isJump(int value) {
            return value >= FIRST_JUMP && value <= LAST_JUMP;
        }

        private static int target(Row text, int place) {
            return 256 * text.get(place + 1) + text.get(place + 2);
        }

        int count() {
            return places.size();
        }

        /** Reads the labels; false if it is no program. */
        boolean read(Row text) {
            places.clear();
            marks.clear();
            marks.resize(text.size() + 1);
            int place = 0;
            while (place < text.size()) {
                if (!isJump(text.get(place))) {
                    place++;
                    continue;
                }
                int target = target(text, place);
                if (place + JUMP_BYTES > text.size() || target > text.size()) {
                    return false;
                }
                marks.set(target, 1);
                place += JUMP_BYTES;
            }
            for (int target = 0; target < marks.size(); target++) {
                if (marks.get(target) == 1) {
                    marks.set(target, places.size());
                    places.add(target);
                }
            }
            return true;
        }

        /** Of the program that was read last; what is marked is the number of its label by then. */
        void writeLabelled(Row text, Row labelled) {
            labelled.clear();
            labelled.add(places.size());
            for (int number = 0; number < places.size(); number++) {
                labelled.add(places.get(number));
            }
            int place = 0;
            while (place < text.size()) {
                int value = text.get(place);
                labelled.add(value);
                place++;
                if (isJump(value)) {
                    labelled.add(0);
                    labelled.add(marks.get(target(text, place - 1)));
                    place += JUMP_BYTES - 1;
                }
            }
        }

        /** False if it is no labelled program. */
        boolean writePlain(Row labelled, Row plain) {
            plain.clear();
            int many = labelled.get(0);
            if (labelled.size() < 1 + many) {
                return false;
            }
            int place = 1 + many;
            while (place < labelled.size()) {
                int value = labelled.get(place);
                plain.add(value);
                place++;
                if (isJump(value)) {
                    int number = target(labelled, place - 1);
                    if (place + JUMP_BYTES - 1 > labelled.size() || number >= many) {
                        return false;
                    }
                    plain.add(0);
                    plain.add(labelled.get(1 + number));
                    place += JUMP_BYTES - 1;
                }
            }
            return true;
        }
    }

    /** A disk whose bytes a patch is laid over, and what is known of that when the power fails. */
    static final class Disk {
        private final Row cells = new Row(MOST_BYTES);
        private final Row ahead = new Row(MOST_BYTES);
        private final Row hand = new Row(MOST_BYTES);
        private final Row begins = new Row(MOST_LAID);
        private final Row needs = new Row(MOST_LAID);
        private final Row order = new Row(MOST_LAID);
        private Patch laid = new Patch();
        private boolean isLaid;
        private int saved;
        private int savedSize;
        private int done;
        private int cut = -1;

        void fill(Row text) {
            cells.copyFrom(text);
            order.clear();
            isLaid = false;
            done = 0;
        }

        int tellCut(int steps) {
            int former = cut;
            cut = steps;
            return former;
        }

        boolean isAtRest() {
            return done >= order.size();
        }

        boolean wasLaid() {
            return isLaid;
        }

        Patch laidPatch() {
            return laid;
        }

        boolean has(Row text) {
            return cells.matches(text);
        }

        int size() {
            return cells.size();
        }

        int get(int place) {
            return cells.get(place);
        }

        int savedCount() {
            return savedSize;
        }

        int orderCount() {
            return order.size();
        }

        int ordered(int index) {
            return order.get(index);
        }

        void start(Patch patch) {
            laid = patch;
            isLaid = true;
            done = 0;
            findBegins();
            findNeeds();
            choose();
            arrange(saved);
            saveAhead();
            cells.resize(Math.max(cells.size(), patch.madeSize()));
        }

        private void findBegins() {
            begins.clear();
            int place = 0;
            for (int operation = 0; operation < laid.count(); operation++) {
                begins.add(place);
                place += laid.sizeAt(operation);
            }
        }

        /** For each operation the copies, a bit each, that read what it writes. */
        private void findNeeds() {
            needs.clear();
            for (int operation = 0; operation < laid.count(); operation++) {
                int low = begins.get(operation);
                int high = low + laid.sizeAt(operation);
                int readers = 0;
                for (int copy = 0; copy < laid.count(); copy++) {
                    int from = laid.fromAt(copy);
                    boolean reads = from >= 0 && from < high && from + laid.sizeAt(copy) > low;
                    if (reads && copy != operation) {
                        readers |= 1 << copy;
                    }
                }
                needs.add(readers);
            }
        }

        /** By rising sums of powers, so that of several choices with as few bytes the least one stays. */
        private void choose() {
            saved = 0;
            savedSize = ABOVE_ALL;
            for (int choice = 0; choice < 1 << laid.count(); choice++) {
                int bytes = bytesOf(choice);
                if (bytes < savedSize && arrange(choice)) {
                    saved = choice;
                    savedSize = bytes;
                }
            }
        }

        /** The bytes of some copies; as many as can be if one of them is none. */
        private int bytesOf(int choice) {
            int sum = 0;
            for (int operation = 0; operation < laid.count(); operation++) {
                if ((choice >> operation & 1) == 1) {
                    if (laid.fromAt(operation) < 0) {
                        return ABOVE_ALL;
                    }
                    sum += laid.sizeAt(operation);
                }
            }
            return sum;
        }

        /** Puts the operations in order, if some copies are saved; false if this does not come to an end. */
        private boolean arrange(int choice) {
            order.clear();
            int ready = choice;
            int listed = 0;
            for (int step = 0; step < laid.count(); step++) {
                int next = lowestReady(ready, listed);
                if (next < 0) {
                    return false;
                }
                order.add(next);
                listed |= 1 << next;
                ready |= 1 << next;
            }
            return true;
        }

        private int lowestReady(int ready, int listed) {
            for (int operation = 0; operation < laid.count(); operation++) {
                if ((listed >> operation & 1) == 0 && (needs.get(operation) & ~ready) == 0) {
                    return operation;
                }
            }
            return -1;
        }

        private void saveAhead() {
            ahead.clear();
            ahead.resize(laid.madeSize());
            for (int operation = 0; operation < laid.count(); operation++) {
                for (int k = 0; k < laid.sizeAt(operation) && isSaved(operation); k++) {
                    ahead.set(begins.get(operation) + k, cells.get(laid.fromAt(operation) + k));
                }
            }
        }

        private boolean isSaved(int operation) {
            return (saved >> operation & 1) == 1;
        }

        /** Goes on as long as the power lasts; returns how many operations were done. */
        int run() {
            int most = cut < 0 ? MOST_LAID : cut;
            cut = -1;
            int steps = 0;
            while (steps < most && done < order.size()) {
                write(order.get(done));
                done++;
                steps++;
            }
            if (done >= order.size()) {
                cells.resize(laid.madeSize());
            }
            return steps;
        }

        /** Its bytes are read into the hand before one is written: a copy may lie over what it reads. */
        private void write(int operation) {
            hand.clear();
            int begin = begins.get(operation);
            int from = laid.fromAt(operation);
            int many = laid.sizeAt(operation);
            for (int k = 0; k < many; k++) {
                int copied = from < 0 ? 0 : cells.get(from + k);
                hand.add(isSaved(operation) ? ahead.get(begin + k) : copied);
            }
            for (int k = 0; k < many; k++) {
                cells.set(begin + k, (hand.get(k) + laid.addAt(begin + k)) & 255);
            }
        }
    }

    /** Versions, and what the patches between them take. */
    static final class Versions {
        private final ArrayList<Row> texts = new ArrayList<Row>();
        private final Row none = new Row(0);
        private final Row keys = new Row(MOST_VERSIONS);
        private final Row counts = new Row(MOST_VERSIONS);
        private final Row gains = new Row(MOST_VERSIONS);
        private final Row costs = new Row(MOST_VERSIONS * MOST_VERSIONS);

        int count() {
            return texts.size();
        }

        int enter(Row text) {
            keys.add(texts.isEmpty() ? 1 : 0);
            counts.add(0);
            texts.add(text);
            costs.resize(MOST_VERSIONS * MOST_VERSIONS);
            return texts.size() - 1;
        }

        /** Numbers of versions come here tested; the empty row stands for none. */
        Row textOf(int version) {
            return version >= 0 && version < texts.size() ? texts.get(version) : none;
        }

        boolean tellKey(int version, boolean is) {
            boolean was = keys.get(version) == 1;
            keys.set(version, is ? 1 : 0);
            return was;
        }

        int tellCount(int version, int many) {
            int former = counts.get(version);
            counts.set(version, many);
            return former;
        }

        int lastKey(int version) {
            int key = version;
            while (key > 0 && keys.get(key) == 0) {
                key--;
            }
            return key;
        }

        /** What a patch takes; each one is drawn but once, as versions never change. */
        int cost(Differ differ, int from, int to) {
            int index = from * MOST_VERSIONS + to;
            if (costs.get(index) == 0) {
                differ.begin(textOf(from), textOf(to));
                costs.set(index, differ.tally());
            }
            return costs.get(index);
        }

        /** What the patches from version to version take, forward or back. */
        int walk(Differ differ, int from, int to) {
            int step = from < to ? 1 : -1;
            int steps = Math.abs(to - from);
            int sum = 0;
            for (int k = 0; k < steps; k++) {
                sum += cost(differ, from + k * step, from + (k + 1) * step);
            }
            return sum;
        }

        int fleetBytes(Differ differ, int many) {
            int newest = texts.size() - 1;
            int whole = textOf(newest).size();
            int sum = 0;
            gains.clear();
            for (int version = 0; version < newest; version++) {
                int holders = counts.get(version);
                sum += holders * whole;
                gains.add(holders == 0 ? 0 : holders * (whole - cost(differ, version, newest)));
            }
            for (int k = 0; k < many; k++) {
                sum -= takeGreatestGain();
            }
            return sum;
        }

        /** 0 if no version is left that gains by a patch. */
        private int takeGreatestGain() {
            int best = -1;
            int most = 0;
            for (int version = 0; version < gains.size(); version++) {
                if (gains.get(version) > most) {
                    most = gains.get(version);
                    best = version;
                }
            }
            gains.set(best, 0);
            return most;
        }
    }

    /** The tree of sums over a file. */
    static final class Tree {
        private static final int LEAF_BYTES = 8;

        private final Row sums = new Row(MOST_BYTES);

        int leaves(Row text) {
            return Math.max(1, (text.size() + LEAF_BYTES - 1) / LEAF_BYTES);
        }

        private int leafSum(Row text, int leaf) {
            int from = leaf * LEAF_BYTES;
            return text.strongSum(1, from, Math.min(LEAF_BYTES, text.size() - from));
        }

        private void readLeaves(Row text) {
            sums.clear();
            for (int leaf = 0; leaf < leaves(text); leaf++) {
                sums.add(leafSum(text, leaf));
            }
        }

        private int climb() {
            for (int many = sums.size(); many > 1; many = (many + 1) / 2) {
                for (int pair = 0; 2 * pair < many; pair++) {
                    int left = sums.get(2 * pair);
                    int joined = (31 * left + 17 * sums.get(2 * pair + 1) + 3) % SUM_BOUND;
                    sums.set(pair, 2 * pair + 1 < many ? joined : left);
                }
            }
            return sums.get(0);
        }

        int root(Row text) {
            readLeaves(text);
            return climb();
        }

        /** The way up from the leaf with the sums beside it is the file's tree with this one leaf exchanged. */
        boolean provesLeaf(Row text, Row image, int leaf) {
            int wanted = root(text);
            readLeaves(text);
            sums.set(leaf, leafSum(image, leaf));
            return climb() == wanted;
        }
    }
}
