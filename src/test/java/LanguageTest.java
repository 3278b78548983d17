import java.io.IOException;
import java.nio.file.Files;
import java.nio.file.Path;
import java.util.List;
import java.util.regex.Matcher;
import java.util.regex.Pattern;

/** What of LANGUAGE.md can be told by reading the source (.ci/run starts it in the project's folder). */
public final class LanguageTest {
    private static final String[] FORBIDDEN = {
        "\\b(throw|throws|try|catch|synchronized|assert|import|package|instanceof|volatile|native)\\b",
        "->", "::", "\"", "Exact\\(", "\\b(equals|hashCode|toString)\\b", "System\\.(?!arraycopy)",
        "\\b(Random|Thread|Object|Exception)\\b", "static\\s*\\{",
        "\\b(Integer|Long|Math)\\.[A-Z]"};
    private static final int MOST_LINES = 60, MOST_PARAMETERS = 7;

    private LanguageTest() {
    }

    public static void main(String[] args) throws IOException {
        List<String> lines = Files.readAllLines(Path.of("src/main/java/RopeLadder.java"));
        int start = -1;
        for (int i = 0; i < lines.size(); i++) {
            String line = lines.get(i);
            Due.due("signs of line " + (i + 1), line.chars().filter(c -> c > 126 || c < 32).count(), 0);
            if (isComment(line)) {
                continue;
            }
            for (String forbidden : FORBIDDEN) {
                Due.due("line " + (i + 1) + " has " + forbidden, Pattern.compile(forbidden).matcher(line).find() ? 1 : 0, 0);
            }
            Matcher head = Pattern.compile("^ {4,8}[a-zA-Z].*\\((.*)\\) \\{$").matcher(line);
            if (head.matches() && !line.trim().matches("(if|for|while|switch|else).*")) {
                start = i;
                long commas = head.group(1).chars().filter(c -> c == ',').count();
                Due.due("parameters in line " + (i + 1), Math.max(MOST_PARAMETERS, commas + 1), MOST_PARAMETERS);
            }
            if (start >= 0 && line.equals(indent(lines.get(start)) + "}")) {
                Due.due("lines of the method at " + (start + 1), Math.max(MOST_LINES, i - start + 1), MOST_LINES);
                start = -1;
            }
        }
        Due.end("LanguageTest");
    }

    private static boolean isComment(String line) {
        return line.trim().startsWith("//") || line.trim().startsWith("*") || line.trim().startsWith("/**");
    }

    private static String indent(String line) {
        return line.substring(0, line.length() - line.stripLeading().length());
    }
}
