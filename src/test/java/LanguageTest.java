import java.nio.file.Files;
import java.nio.file.Path;
import java.util.List;
import java.util.regex.Matcher;
import java.util.regex.Pattern;

/** Those rules of LANGUAGE.md that can be read off the program's lines. */
public final class LanguageTest {
    private static final String[] FORBIDDEN = {
        "\\bimport (?!java\\.util\\.(ArrayList|List|Iterator|Arrays|NoSuchElementException);)", "\\bpackage\\b",
        "^(?!\\s*(case\\b.*|default\\s*)->).*->", "::", "\\bsynchronized\\b", "\\bassert\\b", "\\bfinally\\b",
        "\\b(Double|Float|StrictMath|Thread|Runtime|Object)\\b", "\\bSystem\\.(?!arraycopy\\b)",
        "\\bMath\\.(?!(abs|min|max|floorDiv|floorMod|multiplyHigh)\\b)", "\\b(Long|Integer)\\.(parse|toString|valueOf|decode)",
        "\\bhashCode\\b", "\\bgetMessage\\b", "\\b(protected|volatile|transient|native)\\b", "\"\\s*\\+|\\+\\s*\""};
    private static final String EXCEPTIONS = "(IllegalStateException|IllegalArgumentException|IndexOutOfBoundsException"
            + "|ArithmeticException|UnsupportedOperationException|NoSuchElementException|RuntimeException)";
    private static final Pattern THROWN = Pattern.compile("throw\\b(?! new " + EXCEPTIONS + "\\((\"[^\"]*\")?\\);)");
    private static final Pattern CAUGHT = Pattern.compile("\\bcatch\\b(?! \\((final )?" + EXCEPTIONS + "( \\| "
            + EXCEPTIONS + ")* \\w+\\))");
    private static final Pattern STATIC_FIELD = Pattern.compile("^\\s+(private )?static (?!final )[^(]*[;=]");
    private static final Pattern METHOD = Pattern.compile("^( {4,8})(\\w+ )*\\w+\\([^;]*$|^( {4,8})(\\w+ )+\\w+\\(.*\\{$");
    private static final int MOST_LINES = 60;

    private static final Report report = new Report("LanguageTest");

    public static void main(String[] args) throws Exception {
        List<String> lines = Files.readAllLines(Path.of(args[0]));
        boolean isComment = false;
        for (String line : lines) {
            isComment |= line.strip().startsWith("/*");
            if (!isComment) {
                lookAtLine(line.replaceAll("//.*", ""));
            }
            isComment &= !line.strip().endsWith("*/");
        }
        lookAtLengths(lines);
        report.close();
    }

    private static void lookAtLine(String line) {
        for (String pattern : FORBIDDEN) {
            report.due("'" + line.strip() + "' has " + pattern, Pattern.compile(pattern).matcher(line).find(), false);
        }
        report.due("'" + line.strip() + "' throws what it may not",
                THROWN.matcher(line).find() && !line.contains("throws"), false);
        report.due("'" + line.strip() + "' catches what it may not", CAUGHT.matcher(line).find(), false);
        report.due("'" + line.strip() + "' is static and not final", STATIC_FIELD.matcher(line).find(), false);
        report.due("'" + line.strip() + "' has signs above 127", line.chars().anyMatch(c -> c > 127), false);
    }

    private static void lookAtLengths(List<String> lines) {
        for (int i = 0; i < lines.size(); i++) {
            Matcher start = METHOD.matcher(lines.get(i));
            if (!start.find()) {
                continue;
            }
            String end = lines.get(i).replaceAll("\\S.*", "") + "}";
            int last = i;
            while (last < lines.size() - 1 && !lines.get(last).equals(end)) {
                last++;
            }
            report.due("'" + lines.get(i).strip() + "' is short", last - i < MOST_LINES, true);
        }
    }
}
