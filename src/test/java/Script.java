import java.lang.reflect.Method;
import java.util.HashMap;
import java.util.Map;

/**
 * Runs lines of calls on a new object: "name arguments = answer", "'a text' = answer" (fed to the tape, then read by
 * text()), "feed 'a text'" (fed alone). What stands behind # is a remark. An answer may be a finding's name.
 */
final class Script {
    private static final Map<String, Integer> FINDINGS = Map.of("BEYOND", -1000001, "FULL", -1000002, "KIND", -1000003,
        "NONE", -1000004, "STATE", -1000005, "MISSING", -1000006, "SIZE", -1000007);
    private static final Map<String, Method> FACE = new HashMap<>();
    private static int wrong = 0;

    static {
        for (Method method : TurningCoins.class.getMethods()) {
            FACE.put(method.getName(), method);
        }
    }

    private final String name;
    private final TurningCoins coins = new TurningCoins();

    private Script(String name) {
        this.name = name;
    }

    static void run(String name, String lines) {
        Script script = new Script(name);
        for (String line : lines.split("\n")) {
            String call = line.replaceAll("#.*", "").trim();
            if (!call.isEmpty()) {
                script.check(call);
            }
        }
    }

    /** Ends the program: with 1 if any answer was wrong. */
    static void end() {
        System.out.println(wrong == 0 ? "all answers are as due" : wrong + " answers are not as due");
        System.exit(wrong == 0 ? 0 : 1);
    }

    private void check(String line) {
        if (line.startsWith("feed '")) {
            feed(quoted(line));
            return;
        }
        int cut = line.lastIndexOf('=');
        String call = line.substring(0, cut).trim();
        String due = line.substring(cut + 1).trim();
        int want = FINDINGS.containsKey(due) ? FINDINGS.get(due) : Integer.parseInt(due);
        int got;
        if (call.startsWith("'")) {
            feed(quoted(call));
            got = coins.text();
        } else {
            String[] parts = call.split("\\s+");
            got = call(parts);
        }
        if (got != want) {
            wrong++;
            System.out.println(name + ": " + call + " answered " + got + ", due is " + due);
        }
    }

    private static String quoted(String line) {
        return line.substring(line.indexOf('\'') + 1, line.lastIndexOf('\''));
    }

    private void feed(String text) {
        for (int i = 0; i < text.length(); i++) {
            coins.feed(text.charAt(i), 1);
        }
    }

    private int call(String[] parts) {
        Object[] arguments = new Object[parts.length - 1];
        for (int i = 1; i < parts.length; i++) {
            arguments[i - 1] = Integer.decode(parts[i]);
        }
        try {
            return (Integer) FACE.get(parts[0]).invoke(coins, arguments);
        } catch (ReflectiveOperationException fault) {
            throw new IllegalStateException(name + ": " + String.join(" ", parts), fault);
        }
    }
}
