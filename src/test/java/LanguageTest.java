import java.io.IOException;
import java.nio.file.Files;
import java.nio.file.Path;
import java.util.List;
import java.util.regex.Matcher;
import java.util.regex.Pattern;

/** Those rules of LANGUAGE.md that can be seen from words alone. */
final class LanguageTest {
    private static final Checks checks = new Checks();

    private static final List<String> NEVER = List.of(
        "->", "::", "\\b(synchronized|assert|finally|try|catch|throws?|package|protected|var)\\b",
        "\\b(double|float|String|Object|List|ArrayList|Integer\\.valueOf)\\b",
        "\\b(System\\.(?!arraycopy)|Thread|Random|equals|hashCode|toString)\\b", "Exact\\b",
        "\\bMath\\.(?!max|min|abs|floorDiv|floorMod)", "while \\(true\\)", "for \\(;", "static \\{");

    public static void main(String[] args) throws IOException {
        String text = Files.readString(Path.of("src/main/java/PolicyWorks.java"));
        String code = text.replaceAll("(?s)/\\*.*?\\*/", "").replaceAll("//[^\n]*", "");
        for (String never : NEVER) {
            Matcher found = Pattern.compile(never).matcher(code);
            checks.due(never, found.find(), false);
        }
        Matcher imports = Pattern.compile("import ([^;]*);").matcher(code);
        while (imports.find()) {
            checks.due("import " + imports.group(1), imports.group(1).equals("java.util.Arrays"), true);
        }
        methodsAreShort(code);
        checks.end();
    }

    private static void methodsAreShort(String code) {
        int begun = 0;
        String[] lines = code.split("\n");
        for (int i = 0; i < lines.length; i++) {
            if (lines[i].matches("( {4}| {8})[a-zA-Z].*\\) \\{")) {
                begun = i;
                String arguments = lines[i].substring(lines[i].indexOf('('));
                checks.due("at most seven parameters: " + lines[i], arguments.split(",").length <= 7, true);
            }
            if (lines[i].matches("( {4}| {8})\\}")) {
                checks.due("at most sixty lines: " + lines[begun], i - begun < 60 || begun == 0, true);
            }
        }
    }
}
