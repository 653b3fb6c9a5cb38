import java.util.NoSuchElementException;

/** Each sentence of promises 11 to 14 and of "Ends and matches" that names a boundary: at it, below it, above it. */
public final class MatchBoundsTest {
    private static final Class<IndexOutOfBoundsException> INDEX = IndexOutOfBoundsException.class;

    public static void main(String[] args) {
        theRankAmongItsEnds();
        theBeginningOfAnotherOneFirst();
        endsOfBytes0And255();
        thePlaceInTheNewOne();
        withoutAMatch();
        matchesOfOneByteAndOfAll();
        matchesUpToTheEnds();
        thereAtTheEarliestPlace();
        matchesOverRuns();
        thePlacesOfTheSlack();
        aSlackOf0();
        aSlackOf1();
        ofSeveralNumbersTheLeast();
        slackOverRuns();
        slackUpToTheEnds();
        Check.end("MatchBoundsTest");
    }

    private static Patchferry two(int[] old, int[] young) {
        Patchferry x = new Patchferry();
        Check.put(x, old);
        Check.put(x, young);
        return x;
    }

    private static void theRankAmongItsEnds() {
        Patchferry x = two(Check.rising(20, 200), new int[] {4});
        Check.put(x);
        Check.same("endAt(0, 0)", x.endAt(0, 0), 0);
        Check.same("endAt(0, 1)", x.endAt(0, 1), 1);
        Check.same("endAt(0, 198)", x.endAt(0, 198), 198);
        Check.same("endAt(0, 199)", x.endAt(0, 199), 199);
        Check.fails("endAt(0, 200)", x, INDEX, () -> x.endAt(0, 200));
        Check.fails("endAt(0, -1)", x, INDEX, () -> x.endAt(0, -1));
        Check.same("endAt(1, 0), one end", x.endAt(1, 0), 0);
        Check.fails("endAt(1, 1)", x, INDEX, () -> x.endAt(1, 1));
        Check.fails("endAt(2, 0), no end", x, INDEX, () -> x.endAt(2, 0));
        Check.fails("endAt(0, least)", x, INDEX, () -> x.endAt(0, Integer.MIN_VALUE));
        Check.fails("endAt(0, most)", x, INDEX, () -> x.endAt(0, Integer.MAX_VALUE));
    }

    private static void ranks(int[] text, int... due) {
        Patchferry x = new Patchferry();
        Check.put(x, text);
        int[] got = new int[text.length];
        for (int rank = 0; rank < text.length; rank++) {
            got[rank] = x.endAt(0, rank);
        }
        Check.same("ends in order", got, due);
    }

    private static void theBeginningOfAnotherOneFirst() {
        ranks(new int[] {5, 5}, 1, 0);
        ranks(new int[] {5, 5, 5}, 2, 1, 0);
        ranks(new int[] {5, 6, 5}, 2, 0, 1);
        ranks(new int[] {5, 4, 5}, 1, 2, 0);
        ranks(new int[] {5, 6, 5, 6}, 2, 0, 3, 1);
        ranks(new int[] {5, 6, 5, 5}, 3, 2, 0, 1);
    }

    private static void endsOfBytes0And255() {
        ranks(new int[] {255, 0}, 1, 0);
        ranks(new int[] {0, 255}, 0, 1);
        ranks(new int[] {127, 128, 255, 0}, 3, 0, 1, 2);
        ranks(new int[] {0, 0, 255, 255}, 0, 1, 3, 2);
    }

    private static void thePlaceInTheNewOne() {
        Patchferry x = two(new int[] {1, 2, 3, 4}, new int[] {1, 2, 3});
        Check.put(x);
        Check.same("matchLength(0, 1, 0)", x.matchLength(0, 1, 0), 3);
        Check.same("matchLength(0, 1, 2)", x.matchLength(0, 1, 2), 1);
        Check.same("matchPlace(0, 1, 0)", x.matchPlace(0, 1, 0), 0);
        Check.same("matchPlace(0, 1, 2)", x.matchPlace(0, 1, 2), 2);
        for (int place : new int[] {3, 4, -1, Integer.MIN_VALUE, Integer.MAX_VALUE}) {
            Check.fails("matchLength(0, 1, " + place + ")", x, INDEX, () -> x.matchLength(0, 1, place));
            Check.fails("matchPlace(0, 1, " + place + ")", x, INDEX, () -> x.matchPlace(0, 1, place));
        }
        Check.same("a place beyond the old one", x.matchLength(1, 0, 3), 0);
        Check.fails("a place in an empty file", x, INDEX, () -> x.matchLength(0, 2, 0));
        Check.fails("a place in an empty file", x, INDEX, () -> x.matchPlace(0, 2, 0));
    }

    private static void withoutAMatch() {
        Patchferry x = two(new int[] {1, 2, 3}, new int[] {0, 3, 255});
        Check.put(x);
        Check.same("length of none", x.matchLength(0, 1, 0), 0);
        Check.fails("place of none", x, NoSuchElementException.class, () -> x.matchPlace(0, 1, 0));
        Check.same("length of one byte", x.matchLength(0, 1, 1), 1);
        Check.same("place of one byte", x.matchPlace(0, 1, 1), 2);
        Check.same("length of none at the end", x.matchLength(0, 1, 2), 0);
        Check.fails("place of none at the end", x, NoSuchElementException.class, () -> x.matchPlace(0, 1, 2));
        Check.same("in an empty file", x.matchLength(2, 1, 0), 0);
        Check.fails("in an empty file", x, NoSuchElementException.class, () -> x.matchPlace(2, 1, 0));
    }

    private static void matchesOfOneByteAndOfAll() {
        Patchferry x = two(Check.rising(0, 200), Check.rising(0, 200));
        Check.same("all of 200", x.matchLength(0, 1, 0), 200);
        Check.same("at 0", x.matchPlace(0, 1, 0), 0);
        Check.same("all but one", x.matchLength(0, 1, 1), 199);
        Check.same("at 1", x.matchPlace(0, 1, 1), 1);
        Check.same("the last one", x.matchLength(0, 1, 199), 1);
        Check.same("at 199", x.matchPlace(0, 1, 199), 199);
    }

    private static void matchesUpToTheEnds() {
        Patchferry x = two(new int[] {9, 1, 2, 3}, new int[] {1, 2, 3, 4});
        Check.same("up to the end of the old one", x.matchLength(0, 1, 0), 3);
        Check.same("at 1", x.matchPlace(0, 1, 0), 1);
        Patchferry y = two(new int[] {1, 2, 3, 4}, new int[] {9, 1, 2, 3});
        Check.same("up to the end of the new one", y.matchLength(0, 1, 1), 3);
        Check.same("at 0", y.matchPlace(0, 1, 1), 0);
        Patchferry z = two(Check.row(6, 5), Check.row(6, 7));
        Check.same("a run longer than the old one", z.matchLength(0, 1, 0), 5);
        Check.same("a run as long as the old one", z.matchLength(0, 1, 2), 5);
        Check.same("a run one shorter", z.matchLength(0, 1, 3), 4);
        Check.same("at the earliest place", z.matchPlace(0, 1, 3), 0);
    }

    private static void thereAtTheEarliestPlace() {
        Patchferry x = two(new int[] {1, 2, 1, 2, 3, 1, 2, 3}, new int[] {1, 2, 3, 9, 1, 2});
        Check.same("the longest one", x.matchLength(0, 1, 0), 3);
        Check.same("not the earlier shorter one, nor the later one", x.matchPlace(0, 1, 0), 2);
        Check.same("of two", x.matchLength(0, 1, 4), 2);
        Check.same("the earliest of three", x.matchPlace(0, 1, 4), 0);
        Patchferry y = two(new int[] {7, 7, 7, 8, 7, 7, 8}, new int[] {7, 7, 8, 7, 8});
        Check.same("within a run", y.matchLength(0, 1, 0), 4);
        Check.same("its place", y.matchPlace(0, 1, 0), 1);
        Check.same("the end of a run", y.matchLength(0, 1, 1), 3);
        Check.same("its place", y.matchPlace(0, 1, 1), 2);
        Check.same("a run's last byte and one more", y.matchLength(0, 1, 3), 2);
        Check.same("the earliest one", y.matchPlace(0, 1, 3), 2);
    }

    /** The match stops within a run, with a run, and with the one or the other file. */
    private static void matchesOverRuns() {
        int[] old = {1, 1, 2, 2, 2, 3, 3};
        int[][] young = {{1, 1, 2, 2, 2, 3, 3}, {1, 2, 2, 2, 3}, {1, 2, 2, 2, 3, 3, 3}, {1, 2, 2, 3}, {2, 2, 3, 3, 3},
            {2, 2, 2, 2}, {1, 1, 1, 2}, {1, 1, 2, 2, 2, 3, 3, 4}, {3, 3, 4}, {2, 3}};
        int[] lengths = {7, 5, 6, 3, 4, 3, 2, 7, 2, 2};
        int[] places = {0, 1, 1, 1, 3, 2, 0, 0, 5, 4};
        for (int k = 0; k < young.length; k++) {
            Patchferry x = two(old, young[k]);
            Check.same("length over runs", x.matchLength(0, 1, 0), lengths[k]);
            Check.same("place over runs", x.matchPlace(0, 1, 0), places[k]);
        }
        Patchferry x = two(new int[] {5, 6, 6, 7, 5, 6, 6, 7, 7}, new int[] {5, 6, 6, 7, 7});
        Check.same("the longer one is later", x.matchLength(0, 1, 0), 5);
        Check.same("its place", x.matchPlace(0, 1, 0), 4);
    }

    private static void thePlacesOfTheSlack() {
        Patchferry x = two(new int[] {1, 2, 3, 4}, new int[] {1, 2});
        Check.put(x);
        Check.same("slack(0, 0, 1, 0)", x.slack(0, 0, 1, 0), 2);
        Check.same("the last byte of both", x.slack(0, 3, 1, 1), 0);
        Check.same("slack at the end of the old one", x.slack(0, 4, 1, 0), 0);
        Check.same("slack at the end of the new one", x.slack(0, 0, 1, 2), 0);
        Check.same("slack at both ends", x.slack(0, 4, 1, 2), 0);
        Check.same("slack of empty files", x.slack(2, 0, 2, 0), 0);
        Check.same("slack of an empty file", x.slack(2, 0, 0, 0), 0);
        int[][] wrong = {{5, 0}, {-1, 0}, {0, 3}, {0, -1}, {5, 3}, {Integer.MAX_VALUE, 0}, {0, Integer.MIN_VALUE}};
        for (int[] one : wrong) {
            Check.fails("slack(0, " + one[0] + ", 1, " + one[1] + ")", x, INDEX, () -> x.slack(0, one[0], 1, one[1]));
        }
        Check.fails("slack beyond an empty old file", x, INDEX, () -> x.slack(2, 1, 0, 0));
        Check.fails("slack beyond an empty new file", x, INDEX, () -> x.slack(0, 0, 2, 1));
    }

    private static void slack(int due, int[] old, int... young) {
        Patchferry x = two(old, young);
        Check.same("slack over " + java.util.Arrays.toString(young), x.slack(0, 0, 1, 0), due);
    }

    /** Over 1 2 3 4 5 6: a 9 is unlike. The numbers behind each are twice the alike ones less all. */
    private static void aSlackOf0() {
        int[] old = Check.rising(1, 6);
        slack(0, old, 9);
        slack(0, old, 9, 2);
        slack(0, old, 9, 9, 3);
        slack(0, old, 9, 9, 3, 4);
        slack(0, old, 9, 9, 9, 9, 9, 9);
    }

    private static void aSlackOf1() {
        int[] old = Check.rising(1, 6);
        slack(1, old, 1);
        slack(1, old, 1, 9);
        slack(1, old, 1, 9, 9);
        slack(3, old, 9, 2, 3);
        slack(5, old, 9, 9, 3, 4, 5);
        slack(6, old, 9, 9, 3, 4, 5, 6);
    }

    private static void ofSeveralNumbersTheLeast() {
        int[] old = Check.rising(1, 6);
        slack(1, old, 1, 9, 3);
        slack(4, old, 1, 9, 3, 4);
        slack(2, old, 1, 2, 9, 4);
        slack(2, old, 1, 2, 9, 9, 5, 6);
        slack(5, old, 1, 2, 9, 4, 5);
        slack(3, old, 1, 2, 3, 9, 9, 9);
    }

    private static void slackOverRuns() {
        int[] old = {5, 5, 5, 6, 6, 7};
        slack(6, old, 5, 5, 5, 6, 6, 7);
        slack(6, old, 5, 5, 6, 6, 6, 7);
        slack(6, old, 5, 5, 6, 6, 6, 7, 7);
        slack(5, old, 5, 5, 5, 6, 6);
        slack(2, old, 5, 5, 6, 7, 7, 7);
        slack(3, old, 5, 5, 5, 5, 5, 5);
        slack(0, old, 6, 6, 6, 6, 6, 6);
        slack(5, old, 6, 5, 5, 6, 6, 6);
    }

    private static void slackUpToTheEnds() {
        Patchferry x = two(Check.rising(0, 200), Check.rising(0, 200));
        Check.put(x, Check.rising(0, 199));
        Check.same("all", x.slack(0, 0, 1, 0), 200);
        Check.same("up to the end of the new one", x.slack(0, 0, 2, 0), 199);
        Check.same("up to the end of the old one", x.slack(2, 0, 0, 0), 199);
        Check.same("from the last one", x.slack(0, 199, 1, 199), 1);
        Check.same("from the last but one", x.slack(0, 198, 1, 198), 2);
        Check.same("from places apart", x.slack(0, 198, 1, 199), 0);
    }
}
