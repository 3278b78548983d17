import java.io.File;
import java.io.IOException;
import java.lang.reflect.Method;
import java.lang.reflect.Modifier;
import java.nio.file.Files;
import java.nio.file.Path;
import java.util.List;
import java.util.regex.Matcher;
import java.util.regex.Pattern;

/** README.md tells how to use the class and how to run its tests, as they now stand. */
public final class ReadmeTest {
    private static final Pattern CALL = Pattern.compile("x\\.([a-z]+\\([^)]*\\));");
    private static final Pattern TOLD = Pattern.compile("// (-?[0-9]+): ");

    private ReadmeTest() {
    }

    public static void main(String[] args) throws IOException {
        List<String> lines = Files.readAllLines(Path.of("README.md"));
        String page = String.join("\n", lines);
        exampleAnswers(lines);
        for (Method call : RopeLadder.class.getDeclaredMethods()) {
            if (Modifier.isPublic(call.getModifiers())) isNamed(page, call.getName());
        }
        File[] tests = new File("src/test/java").listFiles();
        Due.due("there are tests", tests != null && tests.length > 0 ? 1 : 0, 1);
        for (File test : tests) {
            isNamed(page, test.getName().replace(".java", ""));
        }
        Due.due("bash .ci/run", page.contains("    bash .ci/run\n") ? 1 : 0, 1);
        Due.end("ReadmeTest");
    }

    private static void isNamed(String page, String name) {
        Due.due("README.md names " + name, page.contains("`" + name + "`") ? 1 : 0, 1);
    }

    /** The last call of each line of the example answers the number behind it. */
    private static void exampleAnswers(List<String> lines) {
        Asked x = Asked.fresh();
        int told = 0;
        for (String line : lines.subList(lines.indexOf("```java") + 2, lines.lastIndexOf("```"))) {
            long answer = Long.MAX_VALUE;
            for (Matcher call = CALL.matcher(line); call.find();) {
                answer = x.ask(signsAsNumbers(call.group(1)));
            }
            Matcher number = TOLD.matcher(line);
            if (number.find()) {
                Due.due("README.md: " + line, answer, Long.parseLong(number.group(1)));
                told++;
            }
        }
        Due.due("README.md tells answers", told > 0 ? 1 : 0, 1);
    }

    private static String signsAsNumbers(String call) {
        return Pattern.compile("'(.)'").matcher(call).replaceAll(sign -> "" + (int) sign.group(1).charAt(0));
    }
}
