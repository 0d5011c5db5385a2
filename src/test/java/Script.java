import java.lang.reflect.Method;
import java.util.ArrayList;
import java.util.HashMap;
import java.util.List;
import java.util.Map;

/**
 * Runs lines of calls on a new object: "name arguments = answer", "'a text' = answer" (fed to the tape, then read by
 * text()), "feed 'a text'" (fed alone). What stands behind # is a remark. An answer may be a finding's name.
 *
 * A twin is told the same calls but those that answer a finding and those that only look. These change nothing (but
 * status()), so both must tell the same in the end; and status() must have counted just those findings.
 */
final class Script {
    private static final List<String> NAMES =
        List.of("BEYOND", "FULL", "KIND", "NONE", "STATE", "MISSING", "SIZE");
    /** The calls that may change something. */
    private static final List<String> ACTS = List.of("coin", "change", "turn", "pay", "there", "buy", "deal", "days",
        "market", "toss", "seed", "feed", "wipe", "text", "hold", "sheet", "write", "copy", "load", "image", "undo", "tear");
    private static final int BEYOND = -1000001;
    /** What is asked of an object behind this many calls is free. */
    private static final int MOST_CALLS = 512;
    private static final int MOST_PROBES = 260;
    private static final Map<String, Method> FACE = new HashMap<>();
    private static int wrong = 0;

    static {
        for (Method method : TurningCoins.class.getMethods()) {
            FACE.put(method.getName(), method);
        }
    }

    private final String name;
    private final TurningCoins coins;
    private final TurningCoins twin;
    private final int[] findings = new int[NAMES.size()];
    private int calls = 0;

    private Script(String name, TurningCoins coins, TurningCoins twin) {
        this.name = name;
        this.coins = coins;
        this.twin = twin;
    }

    private Script(String name) {
        this(name, new TurningCoins(), new TurningCoins());
    }

    /** All lines, one behind the other, on one object. */
    static void run(String name, String lines) {
        Script script = new Script(name);
        script.checkLines(lines);
        script.end(lines);
    }

    /** Each line on an object of its own that has done the first lines; | stands between calls of a line. */
    static void each(String name, String first, String lines) {
        for (String line : lines.split("\n")) {
            if (!bare(line).isEmpty()) {
                Script script = new Script(name);
                script.checkLines(first);
                script.checkLines(bare(line).replace(" | ", "\n"));
                script.end(line);
            }
        }
    }

    /** A line that reads a text of n like items. */
    static String items(int n, String item) {
        return "'" + String.join(";", java.util.Collections.nCopies(n, item)) + "' = " + n + "\n";
    }

    /** Tells an object alone some lines, whatever it answers. */
    static void tell(TurningCoins coins, String lines) {
        new Script("telling", coins, new TurningCoins()).checkLines(lines);
    }

    static void expect(String name, int got, int want) {
        if (got != want) {
            wrong++;
            System.out.println(name + ": " + got + ", due is " + want);
        }
    }

    /** Ends the program: with 1 if any answer was wrong. */
    static void end() {
        System.out.println(wrong == 0 ? "all answers are as due" : wrong + " answers are not as due");
        System.exit(wrong == 0 ? 0 : 1);
    }

    private static String bare(String line) {
        return line.replaceAll("#.*", "").trim();
    }

    private void checkLines(String lines) {
        for (String line : lines.split("\n")) {
            if (!bare(line).isEmpty()) {
                check(bare(line));
            }
        }
    }

    private void check(String line) {
        if (line.startsWith("feed '")) {
            feed(quoted(line));
            return;
        }
        int cut = line.lastIndexOf('=');
        String call = line.substring(0, cut).trim();
        String due = line.substring(cut + 1).trim();
        int which = NAMES.indexOf(due);
        int want = which >= 0 ? BEYOND - which : Integer.parseInt(due);
        String[] parts = call.split("\\s+");
        if (call.startsWith("'")) {
            feed(quoted(call));
            parts = new String[] {"text"};
        }
        calls++;
        int got = call(coins, parts);
        if (which >= 0) {
            findings[which]++;
        } else if (ACTS.contains(parts[0])) {
            call(twin, parts);
        }
        if (got != want) {
            fail(call + " answered " + got + ", due is " + due);
        }
    }

    private static String quoted(String line) {
        return line.substring(line.indexOf('\'') + 1, line.lastIndexOf('\''));
    }

    private void feed(String text) {
        for (int i = 0; i < text.length(); i += 4) {
            int n = Math.min(4, text.length() - i);
            int bytes = 0;
            for (int k = 0; k < n; k++) {
                bytes = bytes << 8 | text.charAt(i + k);
            }
            calls++;
            if (coins.feed(bytes, n) < 0 || twin.feed(bytes, n) < 0) {
                fail("the tape has no room for " + text);
            }
        }
    }

    private int call(TurningCoins asked, String[] parts) {
        Object[] arguments = new Object[parts.length - 1];
        for (int i = 1; i < parts.length; i++) {
            arguments[i - 1] = Integer.decode(parts[i]);
        }
        try {
            return (Integer) FACE.get(parts[0]).invoke(asked, arguments);
        } catch (ReflectiveOperationException fault) {
            throw new IllegalStateException(name + ": " + String.join(" ", parts), fault);
        }
    }

    private void end(String lines) {
        int all = 0;
        for (int which = 0; which < findings.length; which++) {
            all += findings[which];
            if (coins.status(which) != findings[which]) {
                fail("status " + which + " is not " + findings[which] + " behind " + lines);
            }
        }
        if (coins.status(-1) != all) {
            fail("status -1 is not " + all + " behind " + lines);
        }
        if (calls > MOST_CALLS - MOST_PROBES) {
            fail("too many calls: " + calls);
        }
        if (!allOf(coins).equals(allOf(twin))) {
            fail("a call that was refused, or only looked, changed something in " + lines);
        }
    }

    /** What an object tells of all that it holds; it is of no use then. */
    private static List<Integer> allOf(TurningCoins asked) {
        List<Integer> told = new ArrayList<>();
        tellLand(asked, told);
        told.add(asked.text());
        told.add(asked.count(1));
        told.add(asked.count(2));
        for (int purse = 0; purse < 4; purse++) {
            told.add(asked.purse(purse, 0));
        }
        for (int s = 0; s < 4; s++) {
            tellSheet(asked, s, told);
        }
        told.add(asked.undo());
        tellLand(asked, told);
        told.add(asked.tear());
        return told;
    }

    private static void tellLand(TurningCoins asked, List<Integer> told) {
        for (int what = 0; what < 8; what++) {
            told.add(asked.count(what));
        }
        for (int coin = 0; coin < asked.count(1); coin++) {
            for (int what = 0; what < 6; what++) {
                told.add(asked.of(coin, what));
            }
        }
        for (int spot = 0; spot < 10; spot++) {
            told.add(asked.as(spot, 0));
        }
    }

    private static void tellSheet(TurningCoins asked, int s, List<Integer> told) {
        for (int i = 0; i < 4; i++) {
            told.add(asked.copy(s, i, s, 0, 1));
            told.add(asked.strike(s, 0));
            told.add(asked.load(s));
            told.add(asked.count(4));
        }
        told.add(asked.copy(s, 0, s, 0, 39));
        told.add(asked.copy(s, 0, (s + 1) % 4, 0, 0));
    }

    private void fail(String what) {
        wrong++;
        System.out.println(name + ": " + what);
    }
}
