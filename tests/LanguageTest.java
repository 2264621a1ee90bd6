import java.io.IOException;
import java.nio.file.Files;
import java.nio.file.Path;
import java.util.List;
import java.util.regex.Matcher;
import java.util.regex.Pattern;

/** The rules of LANGUAGE.md that can be seen in the text of the class; FaceTest has rule 1. */
public final class LanguageTest {
    private static final Path CLASS = Path.of("src", "main", "java", "DryLoaf.java");

    public static void main(String[] args) throws IOException {
        List<String> lines = Files.readAllLines(CLASS);
        String code = withoutComments(String.join("\n", lines));
        never(code, "rule 2: lambdas and method references", "->|::");
        never(code, "rule 4: the library", "\\b(import|java\\s*\\.|javax\\s*\\.)");
        never(code, "rule 4: of System only arraycopy", "\\bSystem\\.(?!arraycopy\\b)");
        never(code, "rule 4: of Math nothing that ends in Exact", "Exact\\s*\\(");
        never(code, "rule 5: static blocks", "\\bstatic\\s*\\{");
        never(code, "rule 6: the document asks for no exception", "\\b(throw|throws|try|catch|finally)\\b");
        never(code, "rule 6: words that are not left", "\\b(synchronized|assert|volatile|native|transient)\\b");
        never(code, "rule 9: loops without an end", "\\bwhile\\s*\\(\\s*true|for\\s*\\(\\s*;\\s*;");
        never(code, "rule 13: clocks, threads and chance", "\\b(Random|Thread|Runtime|currentTimeMillis|nanoTime)\\b");
        Due.due("rule 11: classes above 12", Math.max(0, times(code, "\\b(class|record|enum|interface)\\s+\\w") - 12), 0);
        Due.due("rule 11: methods of over 60 lines", longMethods(lines), 0);
        Due.due("rule 11: lists of over seven parameters", times(code, "\\((\\s*\\w[\\w\\[\\]]* \\w+\\s*,){7,}"), 0);
        Due.end("LanguageTest");
    }

    private static String withoutComments(String text) {
        return text.replaceAll("(?s)/\\*.*?\\*/", " ").replaceAll("//[^\n]*", " ");
    }

    private static int times(String code, String pattern) {
        Matcher m = Pattern.compile(pattern).matcher(code);
        int found = 0;
        while (m.find()) {
            found++;
        }
        return found;
    }

    private static void never(String code, String rule, String pattern) {
        Due.due(rule, times(code, pattern), 0);
    }

    /** A method begins at a line that ends in ") {" and is indented by 4 or 8, and ends at a "}" under it. */
    private static int longMethods(List<String> lines) {
        int found = 0;
        for (int i = 0; i < lines.size(); i++) {
            Matcher head = Pattern.compile("^( {4}| {8})(?!if|for|while|switch|\\})\\S.*\\) \\{$").matcher(lines.get(i));
            if (head.matches()) {
                int end = i;
                while (end < lines.size() && !lines.get(end).equals(head.group(1) + "}")) {
                    end++;
                }
                found += end - i > 60 ? 1 : 0;
            }
        }
        return found;
    }
}
