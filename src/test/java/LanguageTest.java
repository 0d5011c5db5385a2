import java.io.IOException;
import java.lang.reflect.Field;
import java.lang.reflect.Method;
import java.lang.reflect.Modifier;
import java.nio.charset.StandardCharsets;
import java.nio.file.Files;
import java.nio.file.Path;
import java.util.List;
import java.util.Map;
import java.util.TreeMap;
import java.util.TreeSet;
import java.util.regex.Matcher;
import java.util.regex.Pattern;

/** The rules of LANGUAGE.md that can be seen in the text of the class. Run from the project's root. */
public final class LanguageTest {
    private static final int MOST_LINES = 60;
    private static final int MOST_CLASSES = 12;
    private static final int MOST_FIELDS = 20;
    private static final int MOST_PARAMETERS = 7;
    private static final int DEEPEST = 8;
    private static final String[] FORBIDDEN = {"\\bthrow\\b", "\\bthrows\\b", "\\btry\\b", "\\bcatch\\b",
        "\\bsynchronized\\b", "\\bassert\\b", "->", "::", "\\bpackage\\b", "\\bprotected\\b", "Exact\\b", "\\bSystem\\.(?!arraycopy\\b)",
        "\\bMAX_VALUE\\b", "\\bMIN_VALUE\\b", "\\bvar\\b", "\\bObject\\b", "\\bException\\b", "\\bstatic\\s*\\{", "\\bdouble\\b",
        "\\bfloat\\b", "\\bhashCode\\b", "\\btoString\\b", "\\+ *\"", "\" *\\+"};
    /** What the class uses of the library: all of it stands in rule 4. */
    private static final List<String> LIBRARY = List.of("Arrays.fill", "Integer.bitCount", "Long.bitCount", "Math.max",
        "Math.min", "System.arraycopy");

    private static final Map<String, TreeSet<String>> callsOf = new TreeMap<>();
    private static int methodsRead = 0;
    private static int wrong = 0;

    public static void main(String[] args) throws IOException {
        String text = Files.readString(Path.of("src/main/java/TurningCoins.java"), StandardCharsets.US_ASCII);
        String code = text.replaceAll("(?s)/\\*.*?\\*/", "").replaceAll("//[^\n]*", "");
        for (String pattern : FORBIDDEN) {
            refuse(Pattern.compile(pattern).matcher(code).find(), "holds " + pattern);
        }
        Matcher imports = Pattern.compile("import ([^;]*);").matcher(code);
        while (imports.find()) {
            refuse(!List.of("java.util.Arrays", "java.util.ArrayList", "java.util.List").contains(imports.group(1)),
                "imports " + imports.group(1));
        }
        Matcher fields = Pattern.compile("static (?!final)[^(=;]*[=;]").matcher(code);
        refuse(fields.find(), "has a static field that is not final");
        refuse(Pattern.compile("\\bclass\\b").matcher(code).results().count() > MOST_CLASSES, "has too many classes");
        checkLibrary(code);
        checkLoops(code);
        checkMethods(code);
        checkDepths();
        checkFields(TurningCoins.class);
        int methods = methodsOf(TurningCoins.class);
        for (Class<?> inside : TurningCoins.class.getDeclaredClasses()) {
            checkFields(inside);
            methods += methodsOf(inside);
        }
        refuse(methods != methodsRead, "has " + methods + " methods, but " + methodsRead + " were read");
        System.out.println(wrong == 0 ? "the rules are kept" : "rules are broken");
        System.exit(wrong == 0 ? 0 : 1);
    }

    /** Rule 4. */
    private static void checkLibrary(String code) {
        Matcher uses = Pattern.compile("(?<!\\.)\\b(?!TurningCoins)([A-Z][a-z]\\w*\\.\\w+)").matcher(code);
        while (uses.find()) {
            refuse(!LIBRARY.contains(uses.group(1)), "uses " + uses.group(1));
        }
    }

    /** Rule 9: what a loop asks compares a number with a bound. */
    private static void checkLoops(String code) {
        Matcher loops = Pattern.compile("\\b(while|for) \\((.*)\\) \\{").matcher(code);
        int found = 0;
        while (loops.find()) {
            found++;
            String[] parts = loops.group(2).split(";");
            String asked = loops.group(1).equals("for") && parts.length > 1 ? parts[1] : loops.group(2);
            refuse(!Pattern.compile("[a-zA-Z] (<|<=|>=) \\w").matcher(asked).find(), "has a loop without a bound: " + asked);
        }
        refuse(found != Pattern.compile("\\b(while|for|do)\\b").matcher(code).results().count(), "has a loop of another form");
    }

    private static void checkMethods(String text) {
        String[] lines = text.split("\n");
        for (int i = 0; i < lines.length; i++) {
            Matcher head = Pattern.compile("^( {4}| {8})(?! )([a-zA-Z\\[\\] ]+) (\\w+)\\(([^)]*)\\) \\{$").matcher(lines[i]);
            if (!head.find()) {
                continue;
            }
            int end = i;
            StringBuilder body = new StringBuilder();
            while (end < lines.length && !lines[end].equals(head.group(1) + "}")) {
                end++;
                body.append(lines[end]).append('\n');
            }
            refuse(end - i + 1 > MOST_LINES, head.group(3) + " is too long");
            refuse(head.group(4).split(",").length > MOST_PARAMETERS, head.group(3) + " takes too much");
            checkBody(head.group(2), head.group(3), body.toString());
        }
    }

    /** Rules 8 and 12: only private static methods call themselves, and only constructors make objects. */
    private static void checkBody(String sort, String name, String body) {
        boolean isConstructor = name.equals("TurningCoins");
        methodsRead += isConstructor ? 0 : 1;
        refuse(!isConstructor && Pattern.compile("\\bnew\\b").matcher(body).find(), name + " makes an object");
        boolean isRecursion = Pattern.compile("(?<!\\.)\\b" + name + "\\(").matcher(body).find();
        refuse(isRecursion && !sort.startsWith("private static"), name + " calls itself");
        Matcher called = Pattern.compile("\\b(\\w+)\\(").matcher(body);
        while (called.find()) {
            if (!called.group(1).equals(name)) {
                callsOf.computeIfAbsent(name, k -> new TreeSet<>()).add(called.group(1));
            }
        }
    }

    /** Rule 11: like names count as one method, so a chain may look longer here than it is, never shorter. */
    private static void checkDepths() {
        for (String name : callsOf.keySet()) {
            int deep = depthOf(name, 0);
            refuse(deep > DEEPEST, name + " opens " + deep + " calls");
        }
    }

    private static int depthOf(String name, int above) {
        int most = 0;
        for (String called : callsOf.getOrDefault(name, new TreeSet<>())) {
            most = Math.max(most, above > 2 * DEEPEST ? above : depthOf(called, above + 1));
        }
        return 1 + most;
    }

    private static int methodsOf(Class<?> type) {
        int found = 0;
        for (Method method : type.getDeclaredMethods()) {
            found += method.isSynthetic() ? 0 : 1;
        }
        return found;
    }

    private static void checkFields(Class<?> type) {
        int found = 0;
        for (Field field : type.getDeclaredFields()) {
            if (!Modifier.isStatic(field.getModifiers())) {
                found++;
            }
        }
        refuse(found > MOST_FIELDS, "has too many fields in " + type.getName());
    }

    private static void refuse(boolean is, String what) {
        if (is) {
            wrong++;
            System.out.println("TurningCoins.java " + what);
        }
    }
}
