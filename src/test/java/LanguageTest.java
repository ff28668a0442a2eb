import java.io.IOException;
import java.nio.file.Files;
import java.nio.file.Path;
import java.util.List;
import java.util.regex.Matcher;
import java.util.regex.Pattern;

/** Rules of LANGUAGE.md that can be seen in the text of the class; .ci/run starts it at the root. */
public final class LanguageTest {
    private static final Path SOURCE = Path.of("src/main/java/KindNets.java");
    private static final String[] NEVER = {"->", "::", "\\bcatch\\b", "\\btry\\b", "\\bfinally\\b", "\\bsynchronized\\b",
        "\\bassert\\b", "\\bSystem\\.(?!arraycopy\\b)", "\\bObject\\b", "\\bprotected\\b", "\\bpackage\\b", "Exact\\b",
        "\\bstatic \\{", "\\bthrow\\b", "\\bdouble\\b", "\\bfloat\\b", "\\[\\]\\[\\]\\[\\]", "\\bwhile \\(true\\)",
        "for \\(;;\\)", "Arrays\\.(?!fill\\b|copyOf\\b|copyOfRange\\b)", "Math\\.(?!min\\b|max\\b|abs\\b)",
        "Integer\\.(?!bitCount\\b)"};
    private static int wrong = 0;

    private static void blame(int line, String what) {
        wrong++;
        System.out.println("line " + (line + 1) + ": " + what);
    }

    public static void main(String[] args) throws IOException {
        List<String> lines = Files.readAllLines(SOURCE);
        int begun = 0;
        int classes = 0;
        for (int n = 0; n < lines.size(); n++) {
            String line = withoutComment(lines.get(n));
            for (String never : NEVER) {
                if (Pattern.compile(never).matcher(line).find()) {
                    blame(n, never);
                }
            }
            if (line.startsWith("import ") && !line.equals("import java.util.Arrays;")) {
                blame(n, line);
            }
            if (line.matches(".*\\bstatic (?!final|boolean \\w+\\(|int \\w+\\().*")) {
                blame(n, "a static field that is not final");
            }
            Matcher method = Pattern.compile("^ +[\\w\\[\\] ]*\\w\\((.*)\\) \\{$").matcher(line);
            if (method.matches() && !line.matches("^ +(if|for|while|switch|\\} else).*")) {
                begun = n;
                if (method.group(1).split(",").length > 7) {
                    blame(n, "more than seven parameters");
                }
            }
            if (line.matches("^ {4,8}\\}$")) {
                if (n - begun > 60) {
                    blame(n, "a method of more than sixty lines");
                }
                begun = n;
            }
            classes += line.matches(".*\\b(class|enum|interface|record) [A-Z].*") ? 1 : 0;
        }
        if (classes > 12) {
            blame(0, classes + " classes");
        }
        System.out.println(wrong == 0 ? "the class keeps to the language" : wrong + " places do not");
        if (wrong != 0) {
            System.exit(1);
        }
    }

    private static String withoutComment(String line) {
        String bare = line.trim();
        if (bare.startsWith("*") || bare.startsWith("/*") || bare.startsWith("//")) {
            return "";
        }
        return line;
    }
}
