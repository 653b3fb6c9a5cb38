import java.util.ArrayList;
import java.util.Arrays;
import java.util.Collections;
import java.util.HashMap;
import java.util.List;
import java.util.Map;
import java.util.TreeSet;

/** The document's words done in their plainest form over byte rows, to compare the class with. */
final class Plain {
    private Plain() {
    }

    /** An operation: a copy from a place with what is added, or extra bytes (from -1). */
    record Op(int from, int[] adds) {
        int changed() {
            int many = 0;
            for (int add : adds) {
                many += from >= 0 && add != 0 ? 1 : 0;
            }
            return many;
        }
    }

    record Edit(int from, int to, List<Integer> bytes) {
    }

    record Plan(int saved, int bytes, List<Integer> order) {
    }

    // ---- ends and matches

    static List<Integer> ends(int[] text) {
        List<Integer> places = new ArrayList<>();
        for (int k = 0; k < text.length; k++) {
            places.add(k);
        }
        places.sort((a, b) -> Arrays.compare(text, a, text.length, text, b, text.length));
        return places;
    }

    /** Length and place. */
    static int[] match(int[] old, int[] young, int place) {
        int best = 0;
        int from = -1;
        for (int start = 0; start < old.length; start++) {
            int many = 0;
            while (start + many < old.length && place + many < young.length && old[start + many] == young[place + many]) {
                many++;
            }
            if (many > best) {
                best = many;
                from = start;
            }
        }
        return new int[] {best, from};
    }

    static int slack(int[] old, int at, int[] young, int place) {
        int best = 0;
        int taken = 0;
        int alike = 0;
        for (int many = 1; at + many <= old.length && place + many <= young.length; many++) {
            alike += old[at + many - 1] == young[place + many - 1] ? 1 : 0;
            if (2 * alike - many > best) {
                best = 2 * alike - many;
                taken = many;
            }
        }
        return taken;
    }

    // ---- patches

    static List<Op> draw(int[] old, int[] young) {
        List<Op> ops = new ArrayList<>();
        int[] extra = new int[0];
        int place = 0;
        while (place < young.length) {
            int[] match = match(old, young, place);
            if (match[0] < 4) {
                extra = Check.join(extra, new int[] {young[place]});
                place++;
                continue;
            }
            if (extra.length > 0) {
                ops.add(new Op(-1, extra));
                extra = new int[0];
            }
            int many = match[0] + slack(old, match[1] + match[0], young, place + match[0]);
            int[] adds = new int[many];
            for (int k = 0; k < many; k++) {
                adds[k] = Math.floorMod(young[place + k] - old[match[1] + k], 256);
            }
            ops.add(new Op(match[1], adds));
            place += many;
        }
        if (extra.length > 0) {
            ops.add(new Op(-1, extra));
        }
        return ops;
    }

    static int[] made(int[] base, List<Op> ops) {
        int[] made = new int[0];
        for (Op op : ops) {
            int[] part = op.adds().clone();
            for (int k = 0; k < part.length && op.from() >= 0; k++) {
                part[k] = (part[k] + base[op.from() + k]) % 256;
            }
            made = Check.join(made, part);
        }
        return made;
    }

    static int numberBytes(int number) {
        return Math.max(1, (32 - Integer.numberOfLeadingZeros(number) + 6) / 7);
    }

    static int bytes(List<Op> ops) {
        int sum = 8;
        int end = 0;
        for (Op op : ops) {
            sum += 1 + numberBytes(op.adds().length);
            if (op.from() < 0) {
                sum += op.adds().length;
                continue;
            }
            int jump = op.from() - end;
            sum += numberBytes(jump >= 0 ? 2 * jump : -2 * jump - 1) + 2 * op.changed();
            end = op.from() + op.adds().length;
        }
        return sum;
    }

    static int patchBytes(int[] old, int[] young) {
        return bytes(draw(old, young));
    }

    static String text(List<Op> ops) {
        List<String> words = new ArrayList<>();
        for (Op op : ops) {
            String head = op.from() < 0 ? "x" : "c" + op.from() + "+";
            words.add(head + op.adds().length + (op.changed() > 0 ? "!" + op.changed() : ""));
        }
        return String.join(" ", words);
    }

    static List<Op> compose(List<Op> first, List<Op> second) {
        List<Op> all = new ArrayList<>();
        for (Op op : second) {
            if (op.from() < 0) {
                all.add(op);
                continue;
            }
            int k = 0;
            while (k < op.adds().length) {
                int place = op.from() + k;
                int begin = 0;
                int index = 0;
                while (begin + first.get(index).adds().length <= place) {
                    begin += first.get(index).adds().length;
                    index++;
                }
                Op source = first.get(index);
                int many = Math.min(op.adds().length - k, begin + source.adds().length - place);
                int[] adds = new int[many];
                for (int j = 0; j < many; j++) {
                    adds[j] = (source.adds()[place - begin + j] + op.adds()[k + j]) % 256;
                }
                all.add(new Op(source.from() < 0 ? -1 : source.from() + place - begin, adds));
                k += many;
            }
        }
        return all;
    }

    // ---- merging

    /** Null if a copy goes back. */
    static List<Edit> edits(int[] base, List<Op> ops) {
        List<Edit> edits = new ArrayList<>();
        int end = 0;
        List<Integer> extra = new ArrayList<>();
        for (Op op : ops) {
            if (op.from() < 0) {
                for (int add : op.adds()) {
                    extra.add(add);
                }
                continue;
            }
            if (op.from() < end) {
                return null;
            }
            if (op.from() > end || !extra.isEmpty()) {
                edits.add(new Edit(end, op.from(), extra));
            }
            extra = new ArrayList<>();
            for (int k = 0; k < op.adds().length; k++) {
                int place = op.from() + k;
                if (op.adds()[k] != 0) {
                    edits.add(new Edit(place, place + 1, List.of((base[place] + op.adds()[k]) % 256)));
                }
            }
            end = op.from() + op.adds().length;
        }
        if (base.length > end || !extra.isEmpty()) {
            edits.add(new Edit(end, base.length, extra));
        }
        return edits;
    }

    static int clash(List<Edit> mine, List<Edit> theirs) {
        int lowest = 1000;
        for (Edit a : mine) {
            for (Edit b : theirs) {
                for (int place = 0; place <= 200 && !a.equals(b); place++) {
                    if (a.from() <= place && place <= a.to() && b.from() <= place && place <= b.to()) {
                        lowest = Math.min(lowest, place);
                    }
                }
            }
        }
        return lowest == 1000 ? -1 : lowest;
    }

    static int[] merged(int[] base, List<Edit> mine, List<Edit> theirs) {
        List<Edit> all = new ArrayList<>(mine);
        for (Edit edit : theirs) {
            if (!mine.contains(edit)) {
                all.add(edit);
            }
        }
        all.sort((a, b) -> a.from() != b.from() ? a.from() - b.from() : a.to() - b.to());
        List<Integer> made = new ArrayList<>();
        int place = 0;
        for (Edit edit : all) {
            for (; place < edit.from(); place++) {
                made.add(base[place]);
            }
            made.addAll(edit.bytes());
            place = edit.to();
        }
        for (; place < base.length; place++) {
            made.add(base[place]);
        }
        return made.stream().mapToInt(k -> k).toArray();
    }

    // ---- pieces and blocks

    static List<String> pieces(int[] text) {
        List<String> pieces = new ArrayList<>();
        int start = 0;
        for (int end = 1; end <= text.length; end++) {
            int many = end - start;
            boolean cut = many == 32 || end == text.length;
            if (many >= 4) {
                int roll = text[end - 1] + 2 * text[end - 2] + 4 * text[end - 3] + 8 * text[end - 4];
                cut = cut || roll % 8 == 7;
            }
            if (cut) {
                char[] signs = new char[many];
                for (int k = 0; k < many; k++) {
                    signs[k] = (char) text[start + k];
                }
                pieces.add(new String(signs));
                start = end;
            }
        }
        return pieces;
    }

    static int likeness(int[] text, int[] other) {
        if (text.length + other.length == 0) {
            return 0;
        }
        List<String> left = pieces(other);
        int common = 0;
        for (String piece : pieces(text)) {
            if (left.remove(piece)) {
                common += piece.length();
            }
        }
        return 200 * common / (text.length + other.length);
    }

    /** Which old file each new one was. */
    static Map<Integer, Integer> renamed(List<int[]> texts, int[] folders) {
        List<int[]> pairs = new ArrayList<>();
        for (int old = 0; old < texts.size(); old++) {
            for (int young = 0; young < texts.size(); young++) {
                if (folders[old] == 1 && folders[young] == 2) {
                    pairs.add(new int[] {-likeness(texts.get(old), texts.get(young)), old, young});
                }
            }
        }
        pairs.sort(Arrays::compare);
        Map<Integer, Integer> was = new HashMap<>();
        for (int[] pair : pairs) {
            if (-pair[0] >= 50 && !was.containsKey(pair[2]) && !was.containsValue(pair[1])) {
                was.put(pair[2], pair[1]);
            }
        }
        return was;
    }

    static long strong(int[] text, int from, int to, long first) {
        long sum = first;
        for (int k = from; k < to; k++) {
            sum = (257 * sum + text[k] + 1) % 1000003;
        }
        return sum;
    }

    static int weak(int[] text, int from, int to) {
        int sum = 0;
        for (int k = from; k < to; k++) {
            sum += text[k];
        }
        return sum % 256;
    }

    /** Literals, false ones, what the wire takes. */
    static int[] blocks(int[] old, int[] young, int length) {
        int many = old.length / length;
        int literals = 0;
        int wrong = 0;
        int used = 0;
        int place = 0;
        while (place < young.length) {
            boolean found = false;
            for (int block = 0; block < many && place + length <= young.length && !found; block++) {
                int from = block * length;
                if (weak(old, from, from + length) != weak(young, place, place + length)) {
                    continue;
                }
                found = strong(old, from, from + length, 0) == strong(young, place, place + length, 0);
                wrong += found ? 0 : 1;
            }
            used += found ? 1 : 0;
            literals += found ? 0 : 1;
            place += found ? length : 1;
        }
        return new int[] {literals, wrong, 6 * many + literals + 3 * used};
    }

    // ---- programs and packing

    /** Null if it is no program. */
    static List<Integer> labels(int[] text) {
        TreeSet<Integer> places = new TreeSet<>();
        int place = 0;
        while (place < text.length) {
            if (text[place] < 200 || text[place] > 203) {
                place++;
                continue;
            }
            if (place + 3 > text.length || 256 * text[place + 1] + text[place + 2] > text.length) {
                return null;
            }
            places.add(256 * text[place + 1] + text[place + 2]);
            place += 3;
        }
        return new ArrayList<>(places);
    }

    static int[] labelled(int[] text) {
        List<Integer> labels = labels(text);
        int[] program = text.clone();
        int place = 0;
        while (place < text.length) {
            if (text[place] < 200 || text[place] > 203) {
                place++;
                continue;
            }
            program[place + 1] = 0;
            program[place + 2] = labels.indexOf(256 * text[place + 1] + text[place + 2]);
            place += 3;
        }
        int[] table = labels.stream().mapToInt(k -> k).toArray();
        return Check.join(new int[] {table.length}, table, program);
    }

    /** Null if it is no labelled program. */
    static int[] unlabelled(int[] text) {
        if (text.length == 0 || text.length < 1 + text[0]) {
            return null;
        }
        int[] table = Arrays.copyOfRange(text, 1, 1 + text[0]);
        int[] program = Arrays.copyOfRange(text, 1 + text[0], text.length);
        int place = 0;
        while (place < program.length) {
            if (program[place] < 200 || program[place] > 203) {
                place++;
                continue;
            }
            if (place + 3 > program.length || program[place + 1] != 0 || program[place + 2] >= table.length) {
                return null;
            }
            program[place + 2] = table[program[place + 2]];
            place += 3;
        }
        return program;
    }

    static int[] pack(int[] text, int mode) {
        int[] packed = new int[0];
        int place = 0;
        while (place < text.length) {
            int many = 1;
            while (many < 255 && place + many < text.length && text[place + many] == text[place]) {
                many++;
            }
            boolean isShort = text[place] == 255 || many > mode;
            packed = Check.join(packed, isShort ? new int[] {255, many, text[place]} : Check.row(text[place], many));
            place += many;
        }
        return packed;
    }

    /** Null if it is not packed. */
    static int[] unpack(int[] packed) {
        int[] text = new int[0];
        int place = 0;
        while (place < packed.length) {
            if (packed[place] != 255) {
                text = Check.join(text, new int[] {packed[place]});
                place++;
                continue;
            }
            if (place + 2 >= packed.length || packed[place + 1] == 0) {
                return null;
            }
            text = Check.join(text, Check.row(packed[place + 2], packed[place + 1]));
            place += 3;
        }
        return text;
    }

    static int mode(int[] packed) {
        int[] text = unpack(packed);
        for (int mode = 1; mode <= 3 && text != null; mode++) {
            if (Arrays.equals(pack(text, mode), packed)) {
                return mode;
            }
        }
        return 0;
    }

    static int inside(int[] old, int[] young) {
        int outside = patchBytes(old, young);
        if (mode(old) == 0 || mode(young) == 0) {
            return outside;
        }
        return Math.min(outside, 1 + patchBytes(unpack(old), unpack(young)));
    }

    // ---- in place

    static Plan plan(List<Op> ops) {
        List<Integer> masks = new ArrayList<>();
        for (int mask = 0; mask < 1 << ops.size(); mask++) {
            if (savedBytes(ops, mask) >= 0) {
                masks.add(mask);
            }
        }
        masks.sort((a, b) -> savedBytes(ops, a) != savedBytes(ops, b) ? savedBytes(ops, a) - savedBytes(ops, b) : a - b);
        for (int mask : masks) {
            List<Integer> order = order(ops, mask);
            if (order.size() == ops.size()) {
                return new Plan(mask, savedBytes(ops, mask), order);
            }
        }
        return null;
    }

    private static int savedBytes(List<Op> ops, int mask) {
        int sum = 0;
        for (int k = 0; k < ops.size(); k++) {
            if ((mask & 1 << k) != 0) {
                if (ops.get(k).from() < 0) {
                    return -1;
                }
                sum += ops.get(k).adds().length;
            }
        }
        return sum;
    }

    private static List<Integer> order(List<Op> ops, int mask) {
        List<Integer> order = new ArrayList<>();
        boolean goesOn = true;
        while (goesOn) {
            goesOn = false;
            for (int k = 0; k < ops.size() && !goesOn; k++) {
                if (!order.contains(k) && canBeDone(ops, mask, order, k)) {
                    order.add(k);
                    goesOn = true;
                }
            }
        }
        return order;
    }

    private static boolean canBeDone(List<Op> ops, int mask, List<Integer> order, int op) {
        int begin = 0;
        for (int k = 0; k < op; k++) {
            begin += ops.get(k).adds().length;
        }
        for (int place = begin; place < begin + ops.get(op).adds().length; place++) {
            for (int k = 0; k < ops.size(); k++) {
                Op other = ops.get(k);
                boolean reads = other.from() >= 0 && other.from() <= place && place < other.from() + other.adds().length;
                if (reads && k != op && (mask & 1 << k) == 0 && !order.contains(k)) {
                    return false;
                }
            }
        }
        return true;
    }

    // ---- versions

    static int walk(List<int[]> versions, int from, int to) {
        int sum = 0;
        for (int k = from; k != to; k += from < to ? 1 : -1) {
            sum += patchBytes(versions.get(k), versions.get(from < to ? k + 1 : k - 1));
        }
        return sum;
    }

    static int route(List<int[]> versions, int from, int to) {
        if (from == to) {
            return 0;
        }
        int direct = patchBytes(versions.get(from), versions.get(to));
        return Collections.min(List.of(versions.get(to).length, direct, walk(versions, from, to)));
    }

    /** Every choice of at most so many versions is tried. */
    static int fleet(List<int[]> versions, int[] counts, int many) {
        int newest = versions.size() - 1;
        int[] patches = new int[newest];
        for (int k = 0; k < newest; k++) {
            patches[k] = patchBytes(versions.get(k), versions.get(newest));
        }
        int least = Integer.MAX_VALUE;
        for (int mask = 0; mask < 1 << newest; mask++) {
            if (Integer.bitCount(mask) > many) {
                continue;
            }
            int sum = 0;
            for (int k = 0; k < newest; k++) {
                sum += counts[k] * ((mask & 1 << k) != 0 ? patches[k] : versions.get(newest).length);
            }
            least = Math.min(least, sum);
        }
        return least;
    }

    // ---- trees of sums

    static List<Long> leaves(int[] text) {
        List<Long> sums = new ArrayList<>();
        for (int from = 0; from < text.length || from == 0; from += 8) {
            sums.add(strong(text, from, Math.min(text.length, from + 8), 1));
        }
        return sums;
    }

    static long root(List<Long> sums) {
        if (sums.size() == 1) {
            return sums.get(0);
        }
        List<Long> above = new ArrayList<>();
        for (int k = 0; k + 1 < sums.size(); k += 2) {
            above.add((31 * sums.get(k) + 17 * sums.get(k + 1) + 3) % 1000003);
        }
        if (sums.size() % 2 == 1) {
            above.add(sums.get(sums.size() - 1));
        }
        return root(above);
    }

    static boolean proves(int[] text, int[] mirror, int leaf) {
        List<Long> sums = leaves(text);
        long wanted = root(sums);
        sums.set(leaf, leaves(mirror).get(leaf));
        return root(sums) == wanted;
    }
}
