import java.util.ArrayList;
import java.util.List;

/** Promise 71, and runs of any calls: what they throw is in the document, and what throws changes nothing. */
public final class SoundTest {
    public static void main(String[] args) {
        soundObjects();
        Dice dice = new Dice(14);
        for (int round = 0; round < 120; round++) {
            anyCalls(dice, round % 4 == 0);
        }
        Check.end("SoundTest");
    }

    private static void soundObjects() {
        Patchferry x = new Patchferry();
        Check.isTrue("a new object", x.isSound());
        Check.put(x, 200, 0, 9, 203, 0, 0, 201, 0, 9);
        Check.put(x, 255, 255, 7, 255, 255, 7);
        Check.put(x, Check.row(255, 200));
        Check.put(x);
        Check.isTrue("programs and packed files", x.isSound());
        for (int k = 0; k < 12; k++) {
            x.version(k % 4);
        }
        Check.isTrue("versions", x.isSound());
        x.store(2);
        x.store(1);
        x.drop(2);
        Check.isTrue("stored files", x.isSound());
        x.make(0, 1);
        x.make(1, 2);
        x.load(0);
        x.setCut(0);
        x.lay(0);
        Check.isTrue("a patch half done", x.isSound());
        x.goOn();
        Check.isTrue("a patch at its end", x.isSound());
        x.lay(1);
        Check.isTrue("another patch", x.isSound());
    }

    private static void anyCalls(Dice dice, boolean isWatched) {
        Patchferry x = new Patchferry();
        Caller caller = new Caller(x, dice);
        for (int call = 0; call < 512; call++) {
            if (dice.below(8) == 0) {
                caller.fill();
            }
            String before = isWatched ? Picture.of(x) : "";
            String answer = caller.callAny();
            if (isWatched && answer.startsWith("throws")) {
                Check.same(answer + "; what is left", Picture.of(x), before);
            }
            if (call % 16 == 0) {
                Check.isTrue("isSound() behind any calls", x.isSound());
            }
        }
    }

    /** Calls methods of the face with numbers that are often, but not always, right. */
    private static final class Caller {
        private final Patchferry x;
        private final Dice dice;
        private final List<java.lang.reflect.Method> methods = new ArrayList<>();

        Caller(Patchferry x, Dice dice) {
            this.x = x;
            this.dice = dice;
            for (java.lang.reflect.Method method : Patchferry.class.getDeclaredMethods()) {
                if (java.lang.reflect.Modifier.isPublic(method.getModifiers())) {
                    methods.add(method);
                }
            }
            methods.sort(java.util.Comparator.comparing(java.lang.reflect.Method::getName));
        }

        String callAny() {
            java.lang.reflect.Method method = methods.get(dice.below(methods.size()));
            Object[] given = new Object[method.getParameterCount()];
            for (int k = 0; k < given.length; k++) {
                given[k] = value(method.getParameterTypes()[k]);
            }
            String call = method.getName() + java.util.Arrays.toString(given);
            try {
                return call + " " + method.invoke(x, given);
            } catch (java.lang.reflect.InvocationTargetException e) {
                Class<?> thrown = e.getCause().getClass();
                boolean isListed = java.util.Arrays.asList(method.getExceptionTypes()).contains(thrown);
                Check.isTrue(call + " throws " + thrown + ", which the document lists", isListed);
                Check.isTrue(call + " throws by a statement of its own", Check.isOwn(e.getCause()));
                return "throws " + call;
            } catch (IllegalAccessException e) {
                Check.report(call + " can not be called");
                return call;
            }
        }

        /** A file that goes well with the others; the typed word is done ahead of it. */
        void fill() {
            if (x.files() == 24) {
                return;
            }
            x.doWord();
            int[] bytes = dice.mixed(200);
            if (x.files() > 0 && dice.below(2) == 0) {
                bytes = dice.altered(Check.read(x, dice.below(x.files())));
            }
            Check.put(x, bytes);
        }

        private Object value(Class<?> kind) {
            if (kind == boolean.class) {
                return dice.below(2) == 0;
            }
            if (kind == char.class) {
                return "wipeturnraisehalf`{".charAt(dice.below(19));
            }
            switch (dice.below(12)) {
                case 0: return -1 - dice.below(3);
                case 1: return dice.below(300);
                case 2: return Integer.MAX_VALUE - dice.below(3);
                case 3: return Integer.MIN_VALUE + dice.below(3);
                case 4: return 2 + dice.below(24);
                default: return dice.below(4);
            }
        }
    }
}
