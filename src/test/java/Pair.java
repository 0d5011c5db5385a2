import java.lang.reflect.Method;
import java.util.Arrays;
import java.util.HashMap;
import java.util.Map;
import java.util.TreeMap;

/** An object of the class and a model: each call is asked of both. */
final class Pair {
    private static final Map<String, Method> MODELS = new HashMap<>();
    private static final Map<String, Method> FACE = new TreeMap<>();

    static {
        for (Method method : TurningCoins.class.getDeclaredMethods()) {
            if (java.lang.reflect.Modifier.isPublic(method.getModifiers())) {
                FACE.put(method.getName(), method);
            }
        }
        for (Method method : Model.class.getDeclaredMethods()) {
            MODELS.put(method.getName(), method);
        }
    }

    final Model model = new Model();
    private final TurningCoins coins = new TurningCoins();
    private final StringBuilder told = new StringBuilder();
    int calls = 0;

    static Map<String, Method> face() {
        return FACE;
    }

    /** Whether both answer alike. */
    boolean ask(String name, int... arguments) throws ReflectiveOperationException {
        Object[] boxed = new Object[arguments.length];
        for (int i = 0; i < arguments.length; i++) {
            boxed[i] = arguments[i];
        }
        calls++;
        Object got = FACE.get(name).invoke(coins, boxed);
        Object want = MODELS.get(name).invoke(model, boxed);
        told.append(name).append(Arrays.toString(arguments)).append(" answered ").append(got);
        told.append(got.equals(want) ? "\n" : ", due is " + want + "\n");
        return got.equals(want);
    }

    /** Feeds a text, some bytes a call. */
    boolean feed(String text, int bytesACall) throws ReflectiveOperationException {
        for (int at = 0; at < text.length(); at += bytesACall) {
            int n = Math.min(bytesACall, text.length() - at);
            int bytes = 0;
            for (int i = 0; i < n; i++) {
                bytes = bytes << 8 | text.charAt(at + i);
            }
            if (!ask("feed", bytes, n)) return false;
        }
        told.append("# ").append(text).append('\n');
        return true;
    }

    /** All calls so far. */
    String told() {
        return told.toString();
    }
}
