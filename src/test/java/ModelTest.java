import java.lang.reflect.InvocationTargetException;
import java.lang.reflect.Method;

/** Long runs of calls, right and wrong ones, each held against the model. */
final class ModelTest {
    private static final String[] CALLS = {"cross", "lay", "guard", "change", "set", "read", "start", "go", "append",
        "clearBuffer", "firstError", "load", "write", "keep", "goBack", "undo", "threadOf", "ringOf", "strength",
        "machine", "told", "count", "setting", "ifLoaded", "bestPlace", "bestGuard", "lastsFor", "ifGone",
        "rightShare", "meanWear", "digest"};
    private static final int[] WILD = {-1, Integer.MIN_VALUE, Integer.MAX_VALUE, 100, 256, -2, 60, 61, 127, 32, 17};

    private final Check check;
    private long seed;
    private final boolean wildCalls;
    private WireLoom loom = new WireLoom();
    private Model model = new Model();

    private ModelTest(Check check, long seed) {
        this.check = check;
        this.seed = seed * 7919 + 17;
        this.wildCalls = seed % 3 != 0;
    }

    private int draw(int bound) {
        seed = seed * 6364136223846793005L + 1442695040888963407L;
        return (int) ((seed >>> 33) % bound);
    }

    /** A number of 0 to most, or now and then one beyond. */
    private int pick(int most) {
        if (wildCalls && draw(25) == 0) {
            return draw(2) == 0 ? most + 1 : WILD[draw(WILD.length)];
        }
        return draw(most + 1);
    }

    private static Method find(Class<?> kind, String call) {
        for (Method method : kind.getDeclaredMethods()) {
            if (method.getName().equals(call)) {
                return method;
            }
        }
        throw new IllegalStateException(kind + " has no " + call);
    }

    /** What a loom or a model answers, or the name of what it throws. */
    private static String answer(Object target, String call, int... arguments) {
        Method method = find(target.getClass(), call);
        Object[] taken = new Object[method.getParameterCount()];
        for (int i = 0; i < taken.length; i++) {
            taken[i] = arguments[i];
        }
        try {
            return String.valueOf(method.invoke(target, taken));
        } catch (InvocationTargetException e) {
            return e.getCause().getClass().getName();
        } catch (IllegalAccessException e) {
            throw new IllegalStateException(e);
        }
    }

    private void same(String call, int a, int b, int c) {
        String got = answer(loom, call, a, b, c);
        String want = answer(model, call, a, b, c);
        check.due(call + "(" + a + ", " + b + ", " + c + ") answered " + got + " and the model " + want,
            got.equals(want));
    }

    private void sameText(String text) {
        for (int i = 0; i < text.length(); i++) {
            same("append", text.charAt(i), 0, 0);
        }
    }

    /** Words that keep the machine busy, more often than not. */
    private String someProgram() {
        StringBuilder text = new StringBuilder();
        int words = draw(4) == 0 ? 1 + draw(18) : 1 + draw(5);
        for (int i = 0; i < words; i++) {
            int word = draw(256);
            text.append(String.format("%02x", draw(3) == 0 ? 32 * (1 + draw(7)) + draw(5) : word));
            if (draw(3) == 0 && (i < words - 1 || draw(12) == 0)) {
                text.append('.');
            }
            if (draw(40) == 0) {
                text.append("g0A..f".charAt(draw(6)));
            }
        }
        return text.toString();
    }

    private void someCall() {
        String call = CALLS[draw(CALLS.length)];
        switch (call) {
            case "cross": same(call, pick(15), pick(7), 0); break;
            case "lay": same(call, pick(15), draw(3) == 0 ? pick(7) : pick(255), 0); break;
            case "set": same(call, pick(1), pick(8), 0); break;
            case "go":
            case "ifGone": same(call, draw(3) == 0 ? pick(99) : pick(20), pick(3), 0); break;
            case "append": same(call, draw(3) == 0 ? pick(130) : "0123456789abcdef.".charAt(draw(17)), 0, 0); break;
            case "write": same(call, pick(15), pick(15), 0); break;
            case "threadOf": same(call, pick(15), pick(7), 0); break;
            case "ringOf": same(call, pick(7), pick(4), 0); break;
            case "strength": same(call, pick(15), pick(7), pick(1)); break;
            case "load":
                if (draw(4) != 0) {
                    same("clearBuffer", 0, 0, 0);
                    sameText(someProgram());
                }
                same("firstError", 0, 0, 0);
                same("ifLoaded", pick(15), 0, 0);
                same("bestPlace", 0, 0, 0);
                same(call, pick(15), 0, 0);
                break;
            case "change":
            case "start": if (draw(3) == 0) { same(call, pick(7), 0, 0); } break;
            case "keep":
            case "goBack": if (draw(2) == 0) { same(call, pick(1), 0, 0); } break;
            case "undo":
                for (int times = draw(4) == 0 ? draw(9) : draw(2); times > 0; times--) {
                    same(call, 0, 0, 0);
                }
                break;
            case "machine":
            case "told":
            case "count": same(call, pick(9), 0, 0); break;
            case "setting": same(call, pick(1), 0, 0); break;
            default: same(call, pick(15), 0, 0); break;
        }
    }

    private void allLooks() {
        for (int i = 0; i < 10; i++) {
            same("count", i, 0, 0);
            same("machine", i, 0, 0);
            same("told", i, 0, 0);
            same("strength", draw(16), draw(8), 1);
            same("threadOf", draw(16), draw(8), 0);
            same("lastsFor", draw(16), 0, 0);
        }
        same("bestGuard", 0, 0, 0);
        same("digest", 0, 0, 0);
    }

    private void run() {
        for (int i = 0; i < 150 && !check.failed(); i++) {
            someCall();
            if (i % 5 == 0) {
                same("digest", 0, 0, 0);
            }
        }
        allLooks();
    }

    /** A run that wears the rings through: few threads, read very often. */
    private void runOfWear() {
        for (int i = 0; i < 4; i++) {
            same("lay", draw(16), draw(256), 0);
        }
        for (int i = 0; i < 120 && !check.failed(); i++) {
            same("read", draw(6), 0, 0);
            same("cross", draw(8), draw(8), 0);
            if (i % 10 == 0) {
                same("set", 0, 1 + draw(8), 0);
                same("digest", 0, 0, 0);
            }
        }
        allLooks();
    }

    public static void main(String[] args) {
        Check check = new Check("ModelTest");
        for (int seed = 1; seed <= 250 && !check.failed(); seed++) {
            new ModelTest(check, seed).run();
        }
        for (int seed = 1; seed <= 40 && !check.failed(); seed++) {
            new ModelTest(check, seed).runOfWear();
        }
        check.end();
    }
}
