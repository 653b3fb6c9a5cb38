import java.util.Arrays;
import java.util.HashMap;
import java.util.List;
import java.util.Map;

/**
 * Promises 1 to 71 in runs of 512 calls: each answer and each exception is compared with that of the Model, which
 * changes nothing when it throws. So what a refused call would leave behind shows in later answers.
 */
public final class RunsTest {
    private static final List<String> WORDS = List.of("wipe", "turn", "raise", "half", "halves", "wip", "thirteenthree");
    private static final Map<String, Integer> ANSWERED = new HashMap<>();
    private static final Map<String, Integer> REFUSED = new HashMap<>();

    public static void main(String[] args) {
        Dice dice = new Dice(15);
        Check.same("methods of the face", Calls.GIVEN.size(), 70);
        for (int round = 0; round < 700; round++) {
            new Run(dice, round % 7).go();
        }
        for (String line : Calls.GIVEN) {
            String name = line.split(" ")[0];
            Check.isTrue(name + " was answered", ANSWERED.getOrDefault(name, 0) > 20);
            for (Class<?> thrown : Calls.method(Patchferry.class, name).getExceptionTypes()) {
                String due = name + " throws " + thrown.getName();
                Check.isTrue(due + ": " + REFUSED.get(due), REFUSED.getOrDefault(due, 0) > 5);
            }
        }
        Check.end("RunsTest");
    }

    /** One object and its Model, called alike. */
    private static final class Run {
        private final Patchferry x = new Patchferry();
        private final Model model = new Model();
        private final Dice dice;
        private final int kind;
        private int calls;

        Run(Dice dice, int kind) {
            this.dice = dice;
            this.kind = kind;
        }

        void go() {
            while (calls < 512) {
                switch (dice.below(24)) {
                    case 0:
                        fill();
                        break;
                    case 1:
                        word(WORDS.get(dice.below(WORDS.size())));
                        break;
                    case 2:
                        laying();
                        break;
                    case 3:
                        patching();
                        break;
                    case 4:
                        renaming();
                        break;
                    case 5:
                        call("version", within(0, model.files() - 1));
                        break;
                    default:
                        any(Calls.GIVEN.get(dice.below(Calls.GIVEN.size())));
                }
            }
        }

        /** Bytes of a kind that goes well with those that are there. */
        private void fill() {
            for (int part = 1 + dice.below(5); part > 0; part--) {
                int source = dice.below(1 + model.files());
                int size = source < model.files() ? model.length(source) : 0;
                if (size > 0 && dice.below(4) > 0) {
                    int from = dice.below(3) == 0 ? dice.below(size) : 0;
                    call("quote", source, from, 1 + dice.below(size - from));
                } else if (dice.below(3) > 0) {
                    call("repeat", one(), 1 + dice.below(dice.below(3) == 0 ? 60 : 5));
                }
                for (int more = dice.below(6); more > 0; more--) {
                    call("type", one());
                }
            }
            call("file");
        }

        private int one() {
            int[] firsts = {200, 0, 255, 0, 0, 7, 1};
            int[] many = {4, 6, 1, 256, 30, 2, 9};
            int chosen = dice.below(2) == 0 ? kind : dice.below(7);
            return firsts[chosen] + dice.below(many[chosen]);
        }

        private void word(String word) {
            for (int k = 0; k < word.length(); k++) {
                call("letter", word.charAt(k));
            }
            call("doWord");
        }

        private void laying() {
            int old = dice.below(1 + model.files());
            call("make", old, dice.below(1 + model.files()));
            call("load", old);
            call("setCut", dice.below(5) - 1);
            call("lay", dice.below(20));
        }

        /** A changed file, and the patch to it, so that merges and chains come about. */
        private void patching() {
            int old = dice.below(1 + Math.min(2, model.files()));
            if (old >= model.files() || model.length(old) < 20) {
                return;
            }
            int place = dice.below(model.length(old) - 1);
            if (place > 0) {
                call("quote", old, 0, place);
            }
            call("type", one());
            int next = Math.min(place + dice.below(3), model.length(old) - 1);
            call("quote", old, next, model.length(old) - next);
            call("file");
            call("make", old, model.files() - 1);
            call("merge", dice.below(20), dice.below(20));
            call("compose", dice.below(20), dice.below(20));
        }

        private void renaming() {
            int young = dice.below(1 + model.files());
            call("setFolder", dice.below(1 + model.files()), 1);
            call("setFolder", young, 2);
            call("renamed", young);
        }

        private void any(String line) {
            String[] words = line.split(" ");
            Object[] given = new Object[words.length - 1];
            for (int k = 0; k < given.length; k++) {
                given[k] = value(words[k + 1]);
            }
            call(words[0], given);
        }

        private Object value(String what) {
            switch (what) {
                case "b": return within(0, 255);
                case "m": return dice.below(3) == 0 ? within(1, 200) : within(1, 12);
                case "f": return within(0, model.files() - 1);
                case "p": return dice.below(3) == 0 ? within(0, 199) : within(0, 12);
                case "q": return within(0, dice.below(3) == 0 ? 19 : 4);
                case "o": return within(0, 6);
                case "i": return within(0, 20);
                case "v": return within(0, dice.below(3) == 0 ? 11 : 3);
                case "z": return dice.below(2) == 0;
                case "l": return "wipeturnraisehalf`{A".charAt(dice.below(20));
                default: return within(Integer.parseInt(what.split(":")[0]), Integer.parseInt(what.split(":")[1]));
            }
        }

        /** Mostly in the range, often at its ends, at times just or far outside. */
        private int within(int least, int most) {
            switch (dice.below(20)) {
                case 0: return least - 1;
                case 1: return most + 1;
                case 2: return dice.below(2) == 0 ? Integer.MIN_VALUE : Integer.MAX_VALUE;
                case 3: return least;
                case 4: return most;
                default: return least + dice.below(Math.max(1, most - least + 1));
            }
        }

        private void call(String name, Object... given) {
            if (calls >= 512) {
                return;
            }
            calls++;
            String due = Calls.answer(model, name, given);
            String got = Calls.answer(x, name, given);
            Check.same("call " + calls + ", " + name + Arrays.toString(given), got, due);
            if (due.startsWith("throws ")) {
                REFUSED.merge(name + " " + due, 1, Integer::sum);
            } else {
                ANSWERED.merge(name, 1, Integer::sum);
            }
        }
    }
}
