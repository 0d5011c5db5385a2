import java.io.IOException;
import java.nio.charset.StandardCharsets;
import java.nio.file.Files;
import java.nio.file.Path;
import java.util.List;
import java.util.regex.Matcher;
import java.util.regex.Pattern;

/** The rules of LANGUAGE.md that can be seen in the text of the class. Run from the project's root. */
public final class LanguageTest {
    private static final int MOST_LINES = 60;
    private static final int MOST_CLASSES = 12;
    private static final String[] FORBIDDEN = {"\\bthrow\\b", "\\bthrows\\b", "\\btry\\b", "\\bcatch\\b",
        "\\bsynchronized\\b", "\\bassert\\b", "->", "::", "\\bpackage\\b", "\\bprotected\\b", "Exact\\b", "\\bSystem\\.(?!arraycopy\\b)",
        "\\bMAX_VALUE\\b", "\\bMIN_VALUE\\b", "\\bvar\\b", "\\bObject\\b", "\\bException\\b", "\\bstatic\\s*\\{", "\\bdouble\\b",
        "\\bfloat\\b", "\\bhashCode\\b", "\\btoString\\b"};

    private static int wrong = 0;

    public static void main(String[] args) throws IOException {
        String text = Files.readString(Path.of("src/main/java/TurningCoins.java"), StandardCharsets.US_ASCII);
        String code = text.replaceAll("(?s)/\\*.*?\\*/", "").replaceAll("//[^\n]*", "");
        for (String pattern : FORBIDDEN) {
            refuse(Pattern.compile(pattern).matcher(code).find(), "holds " + pattern);
        }
        Matcher imports = Pattern.compile("import ([^;]*);").matcher(code);
        while (imports.find()) {
            refuse(!List.of("java.util.Arrays", "java.util.ArrayList", "java.util.List").contains(imports.group(1)),
                "imports " + imports.group(1));
        }
        Matcher fields = Pattern.compile("static (?!final)[^(=;]*[=;]").matcher(code);
        refuse(fields.find(), "has a static field that is not final");
        refuse(Pattern.compile("\\bclass\\b").matcher(code).results().count() > MOST_CLASSES, "has too many classes");
        checkMethods(text);
        System.out.println(wrong == 0 ? "the rules are kept" : "rules are broken");
        System.exit(wrong == 0 ? 0 : 1);
    }

    private static void checkMethods(String text) {
        String[] lines = text.split("\n");
        for (int i = 0; i < lines.length; i++) {
            Matcher head = Pattern.compile("^( {4}| {8})(?! )[a-zA-Z\\[\\] ]+ (\\w+)\\(([^)]*)\\) \\{$").matcher(lines[i]);
            if (!head.find()) {
                continue;
            }
            int end = i;
            while (end < lines.length && !lines[end].equals(head.group(1) + "}")) {
                end++;
            }
            refuse(end - i + 1 > MOST_LINES, head.group(2) + " is too long");
            refuse(head.group(3).split(",").length > 7, head.group(2) + " takes too much");
        }
    }

    private static void refuse(boolean is, String what) {
        if (is) {
            wrong++;
            System.out.println("TurningCoins.java " + what);
        }
    }
}
