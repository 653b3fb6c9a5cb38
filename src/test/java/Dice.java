/** Numbers that look thrown but are the same in each run. */
final class Dice {
    private long state;

    Dice(long first) {
        state = first * 2862933555777941757L + 3037000493L;
    }

    int below(int bound) {
        state = state * 6364136223846793005L + 1442695040888963407L;
        return (int) ((state >>> 33) % bound);
    }

    int[] bytes(int many, int kinds, int first) {
        int[] bytes = new int[many];
        for (int k = 0; k < many; k++) {
            bytes[k] = (first + below(kinds)) & 255;
        }
        return bytes;
    }

    /** Another version of some bytes: parts moved, changed, left out, put in; at most 200. */
    int[] altered(int[] old) {
        int[] young = new int[0];
        int parts = 1 + below(6);
        int place = 0;
        for (int k = 0; k < parts; k++) {
            if (below(4) == 0 || old.length == 0) {
                young = Check.join(young, bytes(below(12), 256, 0));
                continue;
            }
            int from = below(3) == 0 ? below(old.length) : Math.min(place, old.length - 1);
            int many = Math.min(1 + below(60), old.length - from);
            int[] part = java.util.Arrays.copyOfRange(old, from, from + many);
            for (int changes = below(4); changes > 0; changes--) {
                part[below(many)] = below(256);
            }
            place = from + many + below(4);
            young = Check.join(young, part);
        }
        return young.length > 200 ? java.util.Arrays.copyOf(young, 200) : young;
    }

    /** Bytes of one of several kinds, so that runs, jumps, marks and repeats all come. */
    int[] mixed(int most) {
        int many = below(most + 1);
        switch (below(6)) {
            case 0: return bytes(many, 2, 7);
            case 1: return bytes(many, 4, 253);
            case 2: return runs(many);
            case 3: return bytes(many, 256, 0);
            case 4: return program(many);
            default: return bytes(many, 12, 195);
        }
    }

    int[] runs(int many) {
        int[] bytes = new int[many];
        int value = below(256);
        for (int k = 0; k < many; k++) {
            if (below(6) == 0) {
                value = below(3) == 0 ? 255 : below(4);
            }
            bytes[k] = value;
        }
        return bytes;
    }

    int[] program(int many) {
        int[] bytes = bytes(many, 200, 0);
        for (int k = 0; k + 2 < many; k += 3 + below(20)) {
            bytes[k] = 200 + below(4);
            bytes[k + 1] = 0;
            bytes[k + 2] = below(many + 1);
        }
        return bytes;
    }
}
