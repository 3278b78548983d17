import java.io.IOException;
import java.nio.file.Files;
import java.nio.file.Path;
import java.util.HashMap;
import java.util.HashSet;
import java.util.Map;
import java.util.Set;
import java.util.regex.Matcher;
import java.util.regex.Pattern;

/**
 * Rules 8 and 11 of LANGUAGE.md: no method comes to itself again, and no chain of calls is more than
 * eight deep. Methods of one name are taken for one, which can only make a chain longer.
 */
public final class CallChainTest {
    private static final int DEEPEST = 8;
    private static final Pattern HEAD = Pattern.compile("^( {4}| {8})(?:[a-zA-Z\\[\\]]+ )*([a-zA-Z]+)\\(.*\\) \\{$");
    private static final Pattern CALL = Pattern.compile("(?<!Math\\.)\\b([a-zA-Z]+)\\(");
    private static final Set<String> STATEMENTS = Set.of("if", "for", "while", "switch");

    private final Map<String, Set<String>> called = new HashMap<>();

    private CallChainTest() {
    }

    public static void main(String[] args) throws IOException {
        CallChainTest test = new CallChainTest();
        test.readSource();
        // That the source was understood: the deepest chain that there is, and one of the constructor.
        Due.due("call() calls best()", test.called.get("call").contains("best") ? 1 : 0, 1);
        Due.due("RopeLadder() calls Sea()", test.called.get("RopeLadder").contains("Sea") ? 1 : 0, 1);
        for (String method : test.called.keySet()) {
            Due.due("calls of " + method + "()", Math.max(DEEPEST, test.depth(method, new HashSet<>())), DEEPEST);
        }
        Due.end("CallChainTest");
    }

    private void readSource() throws IOException {
        String method = null;
        String indent = "";
        for (String line : Files.readAllLines(Path.of("src/main/java/RopeLadder.java"))) {
            Matcher head = HEAD.matcher(line);
            if (method == null && head.matches() && !STATEMENTS.contains(head.group(2))) {
                method = head.group(2);
                indent = head.group(1);
                called.putIfAbsent(method, new HashSet<>());
            } else if (method != null && line.equals(indent + "}")) {
                method = null;
            } else if (method != null && !line.trim().startsWith("//")) {
                addCalls(method, line);
            }
        }
    }

    private void addCalls(String method, String line) {
        for (Matcher call = CALL.matcher(line); call.find();) {
            if (!STATEMENTS.contains(call.group(1))) called.get(method).add(call.group(1));
        }
    }

    /** How many calls stand open at once, this one among them. */
    private int depth(String method, Set<String> open) {
        if (!open.add(method)) {
            Due.due(method + "() comes to itself", 1, 0);
            return 0;
        }
        int deepest = 0;
        for (String inner : called.getOrDefault(method, Set.of())) {
            deepest = Math.max(deepest, depth(inner, open));
        }
        open.remove(method);
        return 1 + deepest;
    }
}
