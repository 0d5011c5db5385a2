import java.io.File;
import java.io.IOException;
import java.lang.reflect.Method;
import java.nio.file.Files;
import java.nio.file.Path;
import java.util.List;
import java.util.Map;
import java.util.TreeMap;
import java.util.TreeSet;
import java.util.regex.Matcher;
import java.util.regex.Pattern;

/** What README.md shows and tells: its example calls, its findings, its tests. Run from the project's root. */
public final class ReadmeTest {
    private static final List<String> NAMES =
        List.of("BEYOND", "FULL", "KIND", "NONE", "STATE", "MISSING", "SIZE");
    private static final int BEYOND = -1000001;
    private static final String NEW = "TurningCoins land = new TurningCoins();";
    private static final Pattern CALL = Pattern.compile("land\\.(\\w+)\\((.*?)\\); +// (-?\\d+|[A-Z]+)(:? .*)?");

    private static final Map<String, Method> FACE = new TreeMap<>();
    private static final TreeSet<String> shown = new TreeSet<>();
    private static int wrong = 0;

    public static void main(String[] args) throws IOException, InterruptedException, ReflectiveOperationException {
        for (Method method : TurningCoins.class.getDeclaredMethods()) {
            if (java.lang.reflect.Modifier.isPublic(method.getModifiers())) {
                FACE.put(method.getName(), method);
            }
        }
        String text = Files.readString(Path.of("README.md"));
        checkExamples(text);
        require(shown.equals(FACE.keySet()), "each method is shown, but only " + shown);
        checkFindings(text);
        checkTestsNamed(text);
        checkCommands(text);
        System.out.println(wrong == 0 ? "README.md tells what is so" : wrong + " faults in README.md");
        System.exit(wrong == 0 ? 0 : 1);
    }

    private static void checkExamples(String text) throws ReflectiveOperationException {
        Matcher blocks = Pattern.compile("(?s)```java\n(.*?)```").matcher(text);
        TurningCoins land = null;
        while (blocks.find()) {
            for (String line : blocks.group(1).split("\n")) {
                if (line.equals(NEW)) {
                    land = new TurningCoins();
                } else {
                    checkCall(land, line);
                }
            }
        }
    }

    private static void checkCall(TurningCoins land, String line) throws ReflectiveOperationException {
        Matcher call = CALL.matcher(line);
        if (land == null || !call.matches() || !FACE.containsKey(call.group(1))) {
            require(false, "a line of an example is a call with its answer: " + line);
            return;
        }
        String[] parts = call.group(2).isEmpty() ? new String[0] : call.group(2).split(", ");
        Object[] arguments = new Object[parts.length];
        for (int i = 0; i < parts.length; i++) {
            arguments[i] = Integer.decode(parts[i]);
        }
        shown.add(call.group(1));
        int got = (Integer) FACE.get(call.group(1)).invoke(land, arguments);
        require(got == numberOf(call.group(3)), line + " is what the class answers, but it is " + got);
    }

    private static int numberOf(String answer) {
        int which = NAMES.indexOf(answer);
        return which >= 0 ? BEYOND - which : Integer.parseInt(answer);
    }

    private static void checkFindings(String text) {
        for (int which = 0; which < NAMES.size(); which++) {
            String told = NAMES.get(which) + " " + (BEYOND - which);
            require(text.replaceAll("\\s+", " ").contains(told), "it tells " + told);
        }
    }

    private static void checkTestsNamed(String text) {
        TreeSet<String> named = new TreeSet<>();
        Matcher names = Pattern.compile("`(\\w+Test)`").matcher(text);
        while (names.find()) {
            named.add(names.group(1));
        }
        TreeSet<String> there = new TreeSet<>();
        for (String file : new File("src/test/java").list()) {
            if (file.endsWith("Test.java")) {
                there.add(file.replace(".java", ""));
            }
        }
        require(named.equals(there), "the tests named are those that there are: " + named + ", " + there);
    }

    /** Runs the commands that are shown, but for .ci/run itself, which runs this test. */
    private static void checkCommands(String text) throws IOException, InterruptedException {
        TreeSet<String> heads = new TreeSet<>();
        for (String line : text.split("\n")) {
            if (line.startsWith("    ")) {
                heads.add(line.trim().split(" ")[0]);
                if (line.trim().equals(".ci/run")) {
                    require(Files.isExecutable(Path.of(".ci/run")), ".ci/run can be run");
                } else {
                    run(line.trim());
                }
            }
        }
        require(heads.equals(new TreeSet<>(List.of(".ci/run", "javac", "java"))), "the commands are shown: " + heads);
    }

    private static void run(String command) throws IOException, InterruptedException {
        Process process = new ProcessBuilder("sh", "-c", command).redirectErrorStream(true).start();
        String printed = new String(process.getInputStream().readAllBytes());
        require(process.waitFor() == 0, command + " ends well, but it printed " + printed);
    }

    private static void require(boolean is, String what) {
        if (!is) {
            wrong++;
            System.out.println("README.md, not so: " + what);
        }
    }
}
