import java.util.ArrayList;
import java.util.List;
import java.util.NoSuchElementException;

/** Each sentence of promises 1 to 10, 67, 68, 70 and of "Files" that names a boundary: at it, below it, above it. */
public final class FileBoundsTest {
    private static final Class<IllegalArgumentException> ARGUMENT = IllegalArgumentException.class;
    private static final Class<IllegalStateException> STATE = IllegalStateException.class;
    private static final Class<IndexOutOfBoundsException> INDEX = IndexOutOfBoundsException.class;

    public static void main(String[] args) {
        aByteIsANumberFrom0To255();
        theBufferTakes200ByType();
        theBufferTakes200ByRepeat();
        theBufferTakes200ByQuote();
        manyOfRepeatIs1To200();
        manyOfQuoteIs1To200();
        theFileHasNotSoManyThere();
        atMost24Files();
        filesOf0To200Bytes();
        theyNeverChange();
        thePlaceOfAByte();
        sameBytes();
        aLetterIsAToZ();
        atMost12Letters();
        aWordIsThenDoneAndGone();
        wipeTellsWhatItHad();
        turnOfFewBytes();
        raiseOf254And255();
        halfOf100And101();
        aWordThatIsNoneOfThese();
        sumsAndMeans();
        Check.end("FileBoundsTest");
    }

    private static void aByteIsANumberFrom0To255() {
        Patchferry x = new Patchferry();
        int[] wrong = {-1, 256, Integer.MIN_VALUE, Integer.MAX_VALUE, -256, 512};
        for (int number : wrong) {
            Check.fails("type(" + number + ")", x, ARGUMENT, () -> x.type(number));
            Check.fails("repeat(" + number + ", 1)", x, ARGUMENT, () -> x.repeat(number, 1));
        }
        Check.same("type(0)", x.type(0), 1);
        Check.same("type(1)", x.type(1), 2);
        Check.same("type(254)", x.type(254), 3);
        Check.same("type(255)", x.type(255), 4);
        Check.same("repeat(0, 2)", x.repeat(0, 2), 6);
        Check.same("repeat(255, 2)", x.repeat(255, 2), 8);
        x.file();
        Check.same("the bytes", Check.read(x, 0), new int[] {0, 1, 254, 255, 0, 0, 255, 255});
    }

    private static void theBufferTakes200ByType() {
        Patchferry x = new Patchferry();
        for (int k = 1; k <= 200; k++) {
            Check.same("type", x.type(k), k);
        }
        Check.fails("type behind 200", x, STATE, () -> x.type(0));
        Check.fails("type(256) behind 200", x, ARGUMENT, () -> x.type(256));
        x.file();
        Check.same("the 200 bytes", Check.read(x, 0), Check.rising(1, 200));
        Check.same("type into the next buffer", x.type(0), 1);
    }

    private static void theBufferTakes200ByRepeat() {
        Patchferry x = new Patchferry();
        Check.same("repeat to 199", x.repeat(1, 199), 199);
        Check.fails("repeat to 201", x, STATE, () -> x.repeat(2, 2));
        Check.fails("repeat to 399", x, STATE, () -> x.repeat(2, 200));
        Check.same("repeat to 200", x.repeat(2, 1), 200);
        Check.fails("repeat behind 200", x, STATE, () -> x.repeat(2, 1));
        Check.fails("repeat of no byte behind 200", x, ARGUMENT, () -> x.repeat(-1, 1));
        Check.fails("repeat for 0 behind 200", x, ARGUMENT, () -> x.repeat(1, 0));
        Check.fails("repeat for 201 behind 200", x, ARGUMENT, () -> x.repeat(1, 201));
        x.file();
        Check.same("the bytes", Check.read(x, 0), Check.join(Check.row(1, 199), new int[] {2}));
    }

    private static void theBufferTakes200ByQuote() {
        Patchferry x = new Patchferry();
        Check.put(x, Check.rising(0, 200));
        Check.same("quote to 199", x.quote(0, 0, 199), 199);
        Check.fails("quote to 201", x, STATE, () -> x.quote(0, 0, 2));
        Check.same("quote to 200", x.quote(0, 199, 1), 200);
        Check.fails("quote behind 200", x, STATE, () -> x.quote(0, 0, 1));
        Check.fails("quote of 200 behind 200", x, STATE, () -> x.quote(0, 0, 200));
        Check.fails("quote of 201 behind 200", x, ARGUMENT, () -> x.quote(0, 0, 201));
        Check.fails("quote of none behind 200", x, ARGUMENT, () -> x.quote(0, 0, 0));
        Check.fails("quote beyond the end behind 200", x, ARGUMENT, () -> x.quote(0, 200, 1));
        Check.fails("quote of no file behind 200", x, INDEX, () -> x.quote(1, 200, 0));
        x.file();
        Check.isTrue("the bytes", x.isSame(0, 1));
    }

    private static void manyOfRepeatIs1To200() {
        for (int many : new int[] {1, 2, 199, 200}) {
            Patchferry x = new Patchferry();
            Check.same("repeat(9, " + many + ")", x.repeat(9, many), many);
            x.file();
            Check.same("the bytes", Check.read(x, 0), Check.row(9, many));
        }
        Patchferry x = new Patchferry();
        for (int many : new int[] {0, -1, 201, 202, Integer.MIN_VALUE, Integer.MAX_VALUE}) {
            Check.fails("repeat(9, " + many + ")", x, ARGUMENT, () -> x.repeat(9, many));
        }
    }

    private static void manyOfQuoteIs1To200() {
        Patchferry x = new Patchferry();
        Check.put(x, Check.rising(3, 200));
        for (int many : new int[] {1, 2, 199, 200}) {
            Check.word(x, "wipe");
            Check.same("quote(0, 0, " + many + ")", x.quote(0, 0, many), many);
        }
        Check.word(x, "wipe");
        for (int many : new int[] {0, -1, 201, Integer.MIN_VALUE, Integer.MAX_VALUE}) {
            Check.fails("quote(0, 0, " + many + ")", x, ARGUMENT, () -> x.quote(0, 0, many));
            Check.fails("quote(0, -1, " + many + ")", x, ARGUMENT, () -> x.quote(0, -1, many));
        }
    }

    private static void theFileHasNotSoManyThere() {
        Patchferry x = new Patchferry();
        Check.put(x, 1, 2, 3, 4);
        Check.put(x);
        Check.same("the last byte", x.quote(0, 3, 1), 1);
        Check.same("up to the end", x.quote(0, 1, 3), 4);
        Check.same("all", x.quote(0, 0, 4), 8);
        int[][] wrong = {{4, 1}, {3, 2}, {1, 4}, {0, 5}, {-1, 1}, {-1, 5}, {5, 1}, {Integer.MIN_VALUE, 1},
            {Integer.MAX_VALUE, 1}, {Integer.MAX_VALUE, 200}, {Integer.MIN_VALUE, 200}};
        for (int[] one : wrong) {
            Check.fails("quote(0, " + one[0] + ", " + one[1] + ")", x, ARGUMENT, () -> x.quote(0, one[0], one[1]));
        }
        Check.fails("quote of an empty file", x, ARGUMENT, () -> x.quote(1, 0, 1));
        x.file();
        Check.same("the bytes", Check.read(x, 2), new int[] {4, 2, 3, 4, 1, 2, 3, 4});
    }

    /** Each method that makes a file makes the 24th one, and none makes a 25th. */
    private static void atMost24Files() {
        List<String> makers = List.of("file", "apply", "merge", "label", "unlabel", "pack", "unpack");
        for (String maker : makers) {
            Patchferry x = new Patchferry();
            Check.put(x, 1, 2, 3);
            Check.put(x, 0, 1, 2, 3);
            x.make(0, 1);
            while (x.files() < 22) {
                x.file();
            }
            Check.same(maker + " as the 23rd", Check.makeBy(x, maker), 22);
            Check.same(maker + " as the 24th", Check.makeBy(x, maker), 23);
            Check.same("files()", x.files(), 24);
            Check.fails(maker + " as the 25th", x, STATE, () -> Check.makeBy(x, maker));
            Check.same("files()", x.files(), 24);
            Check.same("length(23)", x.length(23) >= 0 ? 1 : 0, 1);
        }
    }

    private static void filesOf0To200Bytes() {
        Patchferry x = new Patchferry();
        int[] sizes = {0, 1, 199, 200};
        for (int k = 0; k < sizes.length; k++) {
            Check.same("file()", Check.put(x, Check.rising(1, sizes[k])), k);
            Check.same("length(" + k + ")", x.length(k), sizes[k]);
            Check.same("its bytes", Check.read(x, k), Check.rising(1, sizes[k]));
        }
    }

    private static void theyNeverChange() {
        Patchferry x = new Patchferry();
        Check.put(x, 1, 2, 255);
        x.type(9);
        Check.word(x, "raise");
        Check.word(x, "turn");
        x.quote(0, 0, 3);
        Check.word(x, "raise");
        Check.word(x, "half");
        Check.same("a file while the buffer changes", Check.read(x, 0), new int[] {1, 2, 255});
        x.load(0);
        x.make(0, Check.put(x, 8, 8, 8, 8));
        x.lay(0);
        Check.same("a file while the disk changes", Check.read(x, 0), new int[] {1, 2, 255});
        x.file();
        Check.same("a file while another one is made", Check.read(x, 0), new int[] {1, 2, 255});
    }

    private static void thePlaceOfAByte() {
        Patchferry x = new Patchferry();
        Check.put(x, Check.rising(10, 200));
        Check.put(x, 7);
        Check.put(x);
        Check.same("at(0, 0)", x.at(0, 0), 10);
        Check.same("at(0, 1)", x.at(0, 1), 11);
        Check.same("at(0, 198)", x.at(0, 198), 208);
        Check.same("at(0, 199)", x.at(0, 199), 209);
        Check.fails("at(0, 200)", x, INDEX, () -> x.at(0, 200));
        Check.fails("at(0, -1)", x, INDEX, () -> x.at(0, -1));
        Check.fails("at(0, least)", x, INDEX, () -> x.at(0, Integer.MIN_VALUE));
        Check.fails("at(0, most)", x, INDEX, () -> x.at(0, Integer.MAX_VALUE));
        Check.same("at(1, 0)", x.at(1, 0), 7);
        Check.fails("at(1, 1)", x, INDEX, () -> x.at(1, 1));
        Check.fails("at(2, 0) of an empty file", x, INDEX, () -> x.at(2, 0));
    }

    private static void sameBytes() {
        Patchferry x = new Patchferry();
        int[] text = Check.rising(0, 200);
        int[] first = text.clone();
        first[0] = 255;
        int[] last = text.clone();
        last[199] = 255;
        Check.put(x, text);
        Check.put(x, text);
        Check.put(x, first);
        Check.put(x, last);
        Check.put(x, Check.rising(0, 199));
        Check.put(x);
        Check.put(x);
        Check.put(x, 0);
        Check.isTrue("the same bytes", x.isSame(0, 1));
        Check.isFalse("the first one unlike", x.isSame(0, 2));
        Check.isFalse("the last one unlike", x.isSame(0, 3));
        Check.isFalse("the last one lacks", x.isSame(0, 4));
        Check.isFalse("one more", x.isSame(4, 0));
        Check.isTrue("two empty ones", x.isSame(5, 6));
        Check.isFalse("an empty one and a 0", x.isSame(5, 7));
        Check.isFalse("a 0 and an empty one", x.isSame(7, 5));
    }

    private static void aLetterIsAToZ() {
        Patchferry x = new Patchferry();
        char[] wrong = {'a' - 1, 'z' + 1, 'A', 'Z', ' ', 0, 127, (char) 233, (char) ('a' + 256), Character.MAX_VALUE};
        for (char letter : wrong) {
            Check.fails("letter " + (int) letter, x, ARGUMENT, () -> x.letter(letter));
        }
        Check.same("letter a", x.letter('a'), 1);
        Check.same("letter b", x.letter('b'), 2);
        Check.same("letter y", x.letter('y'), 3);
        Check.same("letter z", x.letter('z'), 4);
    }

    private static void atMost12Letters() {
        Patchferry x = new Patchferry();
        for (int k = 1; k <= 12; k++) {
            Check.same("letter " + k, x.letter('a'), k);
        }
        Check.fails("letter 13", x, STATE, () -> x.letter('a'));
        Check.fails("no letter as letter 13", x, ARGUMENT, () -> x.letter('{'));
        Check.same("a word of 12 is none", x.doWord(), -1);
        for (int k = 1; k <= 11; k++) {
            Check.same("letter " + k, x.letter('b'), k);
        }
        Check.same("a word of 11 is none", x.doWord(), -1);
        Check.same("letter 1", x.letter('c'), 1);
    }

    private static void aWordIsThenDoneAndGone() {
        for (String word : List.of("wipe", "turn", "raise", "half", "other")) {
            Patchferry x = new Patchferry();
            x.type(5);
            Check.word(x, word);
            Check.same(word + " is gone", x.doWord(), -1);
            Check.same("the next word begins", x.letter('q'), 1);
        }
        Patchferry x = new Patchferry();
        x.repeat(254, 3);
        Check.word(x, "raise");
        Check.same("done again only if typed again", x.doWord(), -1);
        x.file();
        Check.same("raised once", Check.read(x, 0), Check.row(255, 3));
    }

    private static void wipeTellsWhatItHad() {
        for (int many : new int[] {0, 1, 199, 200}) {
            Patchferry x = new Patchferry();
            if (many > 0) {
                x.repeat(6, many);
            }
            Check.same("wipe of " + many, Check.word(x, "wipe"), many);
            Check.same("wipe again", Check.word(x, "wipe"), 0);
            x.file();
            Check.same("a file of it", x.length(0), 0);
        }
    }

    private static void turnOfFewBytes() {
        int[][] before = {{}, {1}, {1, 2}, {1, 2, 3}, {1, 2, 3, 4}, Check.rising(0, 200)};
        int[][] after = {{}, {1}, {2, 1}, {3, 2, 1}, {4, 3, 2, 1}, new int[200]};
        for (int k = 0; k < 200; k++) {
            after[5][k] = 199 - k;
        }
        for (int k = 0; k < before.length; k++) {
            Patchferry x = new Patchferry();
            for (int value : before[k]) {
                x.type(value);
            }
            Check.same("turn", Check.word(x, "turn"), before[k].length);
            x.file();
            Check.same("turned", Check.read(x, 0), after[k]);
        }
    }

    private static void raiseOf254And255() {
        Patchferry x = new Patchferry();
        x.type(0);
        x.type(253);
        x.type(254);
        x.type(255);
        Check.same("raise", Check.word(x, "raise"), 4);
        x.file();
        Check.same("255 becomes 0", Check.read(x, 0), new int[] {1, 254, 255, 0});
        x.repeat(255, 200);
        Check.same("raise of 200", Check.word(x, "raise"), 200);
        Check.same("raise again", Check.word(x, "raise"), 200);
        x.file();
        Check.same("raised twice", Check.read(x, 1), Check.row(1, 200));
    }

    private static void halfOf100And101() {
        int[] before = {0, 1, 99, 100, 101, 102, 199, 200};
        int[] after = {0, 1, 99, 100, 100, 100, 100, 100};
        for (int k = 0; k < before.length; k++) {
            Patchferry x = new Patchferry();
            for (int place = 0; place < before[k]; place++) {
                x.type(place);
            }
            Check.same("half of " + before[k], Check.word(x, "half"), after[k]);
            Check.same("half again", Check.word(x, "half"), after[k]);
            x.file();
            Check.same("its end is cut off", Check.read(x, 0), Check.rising(0, after[k]));
        }
    }

    private static void aWordThatIsNoneOfThese() {
        List<String> none = new ArrayList<>(List.of("", "w", "wipex", "xwipe", "wip", "ipe", "tur", "turns", "rais",
                "raiser", "hal", "halfs", "wipewipe", "turnraisehal", "abcdefghijkl"));
        for (String word : none) {
            Patchferry x = new Patchferry();
            Check.put(x, 1, 2);
            x.type(255);
            x.type(3);
            Check.same("\"" + word + "\"", Check.word(x, word), -1);
            x.file();
            Check.same("the buffer stays", Check.read(x, 1), new int[] {255, 3});
        }
    }

    private static void sumsAndMeans() {
        Patchferry x = new Patchferry();
        Check.same("files() at first", x.files(), 0);
        Check.fails("meanLength() of none", x, NoSuchElementException.class, x::meanLength);
        Check.put(x);
        Check.same("files()", x.files(), 1);
        Check.same("meanLength() of an empty file", x.meanLength(), 0.0);
        Check.same("sumOf(0), an empty file", x.sumOf(0), 1);
        Check.put(x, 0);
        Check.same("meanLength() of 0 and 1", x.meanLength(), 0.5);
        Check.same("sumOf(1), a 0", x.sumOf(1), 258);
        Check.put(x, 255);
        Check.same("sumOf(2), a 255", x.sumOf(2), 513);
        Check.same("meanLength() of three", x.meanLength(), 2.0 / 3.0);
        Check.put(x, 255, 255);
        // 513 * 257 + 256 is 132097; with the next 255 33949185, which is 33 * 1000003 + 949086.
        Check.same("sumOf(3), two bytes", x.sumOf(3), 132097);
        Check.put(x, 255, 255, 255);
        Check.same("sumOf(4), modulo 1000003", x.sumOf(4), 949086);
        Check.put(x, Check.row(255, 200));
        Check.same("sumOf(5), 200 bytes", x.sumOf(5), Plain.strong(Check.row(255, 200), 0, 200, 1));
        Check.same("meanLength() of six", x.meanLength(), 207.0 / 6.0);
    }
}
