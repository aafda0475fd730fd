import java.nio.charset.StandardCharsets;
import java.nio.file.Files;
import java.nio.file.Path;
import java.util.List;
import java.util.regex.Matcher;
import java.util.regex.Pattern;

/** What of LANGUAGE.md can be seen in the source's lines; run from the project's root. */
public final class LanguageTest {
    private static final Check CHECK = new Check();
    private static final String[] NEVER = {"->", "::", "\\bfinally\\b", "\\bsynchronized\\b", "\\bassert\\b", "\\btry\\b", "\\bcatch\\b",
        "\\bclone\\b", "Exact\\(", "\\bObject\\b", "\\bSystem\\.(?!arraycopy\\()", "\\bArrays\\.(?!fill\\(|copyOf)", "\\bMath\\.(?!min\\(|max\\(|abs\\()",
        "\\bprotected\\b", "\\bvolatile\\b", "\\bvar\\b", "\\bdouble\\b", "\\bfloat\\b", "\" \\+", "\\+ \"", "\\bequals\\b", "\\bhashCode\\b",
        "\\btoString\\b", "\\bpackage\\b", "\\bnative\\b", "@"};

    public static void main(String[] args) throws Exception {
        Path file = Path.of("src/main/java/ThirdInLine.java");
        List<String> lines = Files.readAllLines(file, StandardCharsets.ISO_8859_1);
        int inMethod = 0;
        int classes = 0;
        for (int i = 0; i < lines.size(); i++) {
            String line = lines.get(i);
            String code = line.replaceAll("/\\*.*|^\\s*\\*.*|//.*", "");
            String where = "line " + (i + 1) + " " + line.trim();
            for (String never : NEVER) {
                CHECK.due(where + " has " + never, Pattern.compile(never).matcher(code).find(), false);
            }
            if (code.startsWith("import ")) {
                CHECK.due(where, code.matches("import java\\.util\\.(Arrays|NoSuchElementException);"), true);
            }
            if (code.matches("\\s+.*\\bstatic\\b.*=.*")) {
                CHECK.due(where + " is final", code.contains(" final "), true);
            }
            classes += code.matches(".*\\bclass \\w+ .*") ? 1 : 0;
            if (code.matches(" {4,8}[\\w<>\\[\\] ]+\\(.*\\).*\\{") && !code.matches("\\s*(if|for|while|switch|return|else)\\b.*")) {
                inMethod = i;
                Matcher parameters = Pattern.compile("\\(([^)]*)\\)").matcher(code);
                CHECK.due(where + " has seven parameters at most", !parameters.find() || parameters.group(1).split(",").length <= 7, true);
            }
            if (code.matches(" {4,8}\\}") && inMethod > 0) {
                CHECK.due(where + " ends a method of sixty lines at most", i - inMethod <= 60 || classEnd(lines, i), true);
            }
            for (int c = 0; c < line.length(); c++) {
                CHECK.due(where + " has plain signs", line.charAt(c) < 127, true);
            }
        }
        CHECK.due("twelve classes at most: " + classes, classes <= 12, true);
        CHECK.end("LanguageTest");
    }

    private static boolean classEnd(List<String> lines, int i) {
        return lines.get(i).equals("    }") && i + 2 < lines.size() && lines.get(i + 2).matches(" {4}/\\*\\*.*|    private static final class .*");
    }
}
