import java.util.List;
import java.util.NoSuchElementException;

/** Promises 11 to 14. */
public final class MatchesTest {
    private static final Class<IndexOutOfBoundsException> INDEX = IndexOutOfBoundsException.class;

    public static void main(String[] args) {
        promise11EndAt();
        promises12And13Match();
        promise14Slack();
        manyPairs();
        Check.end("MatchesTest");
    }

    private static void promise11EndAt() {
        Patchferry x = new Patchferry();
        Check.put(x, 2, 1, 2, 1);
        int[] due = {3, 1, 2, 0};
        for (int rank = 0; rank < 4; rank++) {
            Check.same("endAt(0, " + rank + ")", x.endAt(0, rank), due[rank]);
        }
        Check.fails("endAt(0, 4)", x, INDEX, () -> x.endAt(0, 4));
        Check.fails("endAt(0, -1)", x, INDEX, () -> x.endAt(0, -1));
        Check.fails("endAt(1, 0)", x, INDEX, () -> x.endAt(1, 0));
        Check.put(x);
        Check.fails("endAt of nothing", x, INDEX, () -> x.endAt(1, 0));
        Check.put(x, Check.row(5, 200));
        Check.same("the shortest of like bytes is first", x.endAt(2, 0), 199);
        Check.same("the longest one is last", x.endAt(2, 199), 0);
    }

    private static void promises12And13Match() {
        Patchferry x = new Patchferry();
        Check.put(x, 1, 2, 3, 1, 2, 3, 4, 1, 2);
        Check.put(x, 1, 2, 3, 4, 9, 1, 2);
        Check.same("length at 0", x.matchLength(0, 1, 0), 4);
        Check.same("place at 0", x.matchPlace(0, 1, 0), 3);
        Check.same("length at 5", x.matchLength(0, 1, 5), 2);
        Check.same("the earliest place at 5", x.matchPlace(0, 1, 5), 0);
        Check.same("length of none", x.matchLength(0, 1, 4), 0);
        Check.fails("place of none", x, NoSuchElementException.class, () -> x.matchPlace(0, 1, 4));
        Check.same("a match of one byte", x.matchLength(0, 1, 6), 1);
        Check.same("where it is", x.matchPlace(0, 1, 6), 1);
        Check.fails("matchLength(0, 1, 7)", x, INDEX, () -> x.matchLength(0, 1, 7));
        Check.fails("matchLength(0, 1, -1)", x, INDEX, () -> x.matchLength(0, 1, -1));
        Check.fails("matchLength(2, 1, 0)", x, INDEX, () -> x.matchLength(2, 1, 0));
        Check.fails("matchLength(0, 2, 0)", x, INDEX, () -> x.matchLength(0, 2, 0));
        Check.fails("matchPlace(0, 1, 7)", x, INDEX, () -> x.matchPlace(0, 1, 7));
        Check.fails("matchPlace(-1, 1, 4)", x, INDEX, () -> x.matchPlace(-1, 1, 4));
        Check.put(x);
        Check.same("a match in nothing", x.matchLength(2, 0, 0), 0);
        Check.fails("its place", x, NoSuchElementException.class, () -> x.matchPlace(2, 0, 0));
        Check.fails("a match of nothing", x, INDEX, () -> x.matchLength(0, 2, 0));
        Check.put(x, 0, 0, 0);
        Check.fails("zeros in none", x, NoSuchElementException.class, () -> x.matchPlace(0, 3, 0));
    }

    private static void promise14Slack() {
        Patchferry x = new Patchferry();
        Check.put(x, 1, 2, 3, 4, 5, 6, 7);
        Check.put(x, 9, 2, 3, 4, 9, 6, 9, 9);
        Check.same("slack from the beginnings", x.slack(0, 0, 1, 0), 4);
        Check.same("slack of several numbers the least", x.slack(0, 1, 1, 1), 3);
        Check.same("slack 1 of 1", x.slack(0, 5, 1, 5), 1);
        Check.same("slack over unlike ones", x.slack(0, 4, 1, 4), 0);
        Check.same("slack at both ends", x.slack(0, 7, 1, 8), 0);
        Check.same("slack at one end", x.slack(0, 7, 1, 0), 0);
        Check.fails("slack(0, 8, 1, 0)", x, INDEX, () -> x.slack(0, 8, 1, 0));
        Check.fails("slack(0, 0, 1, 9)", x, INDEX, () -> x.slack(0, 0, 1, 9));
        Check.fails("slack(0, -1, 1, 0)", x, INDEX, () -> x.slack(0, -1, 1, 0));
        Check.fails("slack(0, 0, 1, -1)", x, INDEX, () -> x.slack(0, 0, 1, -1));
        Check.fails("slack(2, 0, 1, 0)", x, INDEX, () -> x.slack(2, 0, 1, 0));
        Check.fails("slack(0, 0, -1, 0)", x, INDEX, () -> x.slack(0, 0, -1, 0));
        Check.put(x);
        Check.same("slack of nothing", x.slack(2, 0, 2, 0), 0);
    }

    private static void manyPairs() {
        Dice dice = new Dice(2);
        for (int round = 0; round < 60; round++) {
            Patchferry x = new Patchferry();
            int[] old = dice.mixed(round % 3 == 0 ? 200 : 30);
            int[] young = dice.below(2) == 0 ? dice.altered(old) : dice.mixed(60);
            Check.put(x, old);
            Check.put(x, young);
            List<Integer> ends = Plain.ends(old);
            for (int rank = 0; rank < old.length; rank++) {
                Check.same("endAt", x.endAt(0, rank), ends.get(rank));
            }
            for (int place = 0; place < young.length; place++) {
                int[] due = Plain.match(old, young, place);
                Check.same("matchLength", x.matchLength(0, 1, place), due[0]);
                if (due[0] > 0) {
                    Check.same("matchPlace", x.matchPlace(0, 1, place), due[1]);
                }
            }
            for (int k = 0; k < 100; k++) {
                int at = dice.below(old.length + 1);
                int place = dice.below(young.length + 1);
                Check.same("slack", x.slack(0, at, 1, place), Plain.slack(old, at, young, place));
            }
        }
    }
}
