import java.util.List;

/** "If there is no such file, patch, version": each number of one, of each method, at the ends and beyond them. */
public final class NumbersTest {
    private static final String INDEX = "throws java.lang.IndexOutOfBoundsException";

    public static void main(String[] args) {
        int[] none = {0, 0, 0};
        int[] some = {7, 6, 3};
        int[] most = {24, 20, 12};
        numbers(List.of(), none);
        numbers(Scene.some(), some);
        numbers(Scene.full(), most);
        Check.end("NumbersTest");
    }

    private static void numbers(List<String> scene, int[] counts) {
        Model model = new Model();
        Scene.play(scene, model);
        int asked = 0;
        for (String line : Calls.GIVEN) {
            String[] words = line.split(" ");
            for (int k = 1; k < words.length; k++) {
                int kind = "fqv".indexOf(words[k]);
                if (kind >= 0) {
                    asked++;
                    beyond(scene, words, k, counts[kind]);
                    atTheEnds(scene, words, k, counts[kind]);
                }
            }
        }
        Check.same("numbers that were asked for", asked, 70);
    }

    private static Object[] given(String[] words) {
        Object[] given = new Object[words.length - 1];
        for (int k = 0; k < given.length; k++) {
            String range = words[k + 1];
            given[k] = range.equals("z") ? (Object) true : (Object) (range.contains(":") ? 2 : range.equals("m") ? 1 : 0);
        }
        return given;
    }

    private static void beyond(List<String> scene, String[] words, int place, int count) {
        for (int number : new int[] {-1, count, count + 1, Integer.MIN_VALUE, Integer.MAX_VALUE}) {
            Object[] given = given(words);
            given[place - 1] = number;
            Patchferry x = Scene.played(scene);
            Check.same(words[0] + java.util.Arrays.toString(given), Calls.answer(x, words[0], given), INDEX);
        }
    }

    /** At the ends it answers, or throws, what the Model does. */
    private static void atTheEnds(List<String> scene, String[] words, int place, int count) {
        for (int number : new int[] {0, count - 1}) {
            if (count == 0) {
                return;
            }
            Object[] given = given(words);
            given[place - 1] = number;
            Model model = new Model();
            Scene.play(scene, model);
            Patchferry x = Scene.played(scene);
            String due = Calls.answer(model, words[0], given);
            Check.same(words[0] + java.util.Arrays.toString(given), Calls.answer(x, words[0], given), due);
        }
    }
}
