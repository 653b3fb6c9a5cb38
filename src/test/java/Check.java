import java.util.Arrays;

/** What the tests of the project have in common: comparing, counting what is wrong, files in and out. */
final class Check {
    private static int wrong = 0;

    private Check() {
    }

    interface Call {
        void run();
    }

    static void same(String what, long got, long want) {
        if (got != want) {
            report(what + " answered " + got + ", due is " + want);
        }
    }

    static void same(String what, double got, double want) {
        if (got != want) {
            report(what + " answered " + got + ", due is " + want);
        }
    }

    static void same(String what, String got, String want) {
        if (!got.equals(want)) {
            report(what + " answered " + got + ", due is " + want);
        }
    }

    static void same(String what, int[] got, int[] want) {
        same(what, Arrays.toString(got), Arrays.toString(want));
    }

    static void isTrue(String what, boolean got) {
        same(what, got ? 1 : 0, 1);
    }

    static void isFalse(String what, boolean got) {
        same(what, got ? 1 : 0, 0);
    }

    /** The call must throw just this, and change nothing that can be asked of the object. */
    static void fails(String what, Patchferry x, Class<? extends RuntimeException> due, Call call) {
        String before = Picture.of(x);
        String got = "nothing";
        try {
            call.run();
        } catch (RuntimeException e) {
            got = e.getClass().getName();
            isTrue(what + " throws by a statement of its own", isOwn(e));
        }
        same(what + " throws", got, due.getName());
        same(what + " threw; what is left", Picture.of(x), before);
    }

    /** Thrown by the class itself, not by the machine or the library under it. */
    static boolean isOwn(Throwable thrown) {
        StackTraceElement[] stack = thrown.getStackTrace();
        boolean isHere = stack.length > 0 && stack[0].getClassName().startsWith("Patchferry");
        return isHere && thrown.getMessage() != null && !thrown.getMessage().startsWith("Index ");
    }

    static void report(String line) {
        wrong++;
        if (wrong <= 40) {
            System.out.println(line.substring(0, Math.min(line.length(), 400)));
        }
    }

    static void end(String test) {
        System.out.println(test + ": " + (wrong == 0 ? "ok" : wrong + " wrong"));
        if (wrong > 0) {
            System.exit(1);
        }
    }

    /** A file of these bytes; what the buffer had is gone. */
    static int put(Patchferry x, int... bytes) {
        word(x, "wipe");
        for (int value : bytes) {
            x.type(value);
        }
        return x.file();
    }

    /** Makes a file by one of the methods that do; files 0 and 1 and patch 0 must go with it. */
    static int makeBy(Patchferry x, String maker) {
        switch (maker) {
            case "file": return x.file();
            case "apply": return x.apply(0, 0);
            case "merge": return x.merge(0, 0);
            case "label": return x.label(0);
            case "unlabel": return x.unlabel(1);
            case "pack": return x.pack(0, 1);
            case "unpack": return x.unpack(0);
            default: throw new AssertionError(maker);
        }
    }

    static int[] read(Patchferry x, int file) {
        int[] bytes = new int[x.length(file)];
        for (int k = 0; k < bytes.length; k++) {
            bytes[k] = x.at(file, k);
        }
        return bytes;
    }

    static String text(Patchferry x, int patch) {
        StringBuilder text = new StringBuilder();
        for (int k = 0; k < 5000; k++) {
            try {
                text.append(x.signAt(patch, k));
            } catch (IndexOutOfBoundsException e) {
                return text.toString();
            }
        }
        return text.toString();
    }

    static int word(Patchferry x, String word) {
        for (int k = 0; k < word.length(); k++) {
            x.letter(word.charAt(k));
        }
        return x.doWord();
    }

    static int[] row(int value, int many) {
        int[] bytes = new int[many];
        Arrays.fill(bytes, value);
        return bytes;
    }

    static int[] rising(int first, int many) {
        int[] bytes = new int[many];
        for (int k = 0; k < many; k++) {
            bytes[k] = first + k;
        }
        return bytes;
    }

    static int[] join(int[]... parts) {
        int[] all = new int[0];
        for (int[] part : parts) {
            int at = all.length;
            all = Arrays.copyOf(all, at + part.length);
            System.arraycopy(part, 0, all, at, part.length);
        }
        return all;
    }
}
