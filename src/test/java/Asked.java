import java.lang.reflect.InvocationTargetException;
import java.lang.reflect.Method;
import java.lang.reflect.Modifier;
import java.util.ArrayList;
import java.util.HashMap;
import java.util.List;
import java.util.Map;

/**
 * One RopeLadder, asked by calls as the document writes them: "crest(0, 2)". NONE, MIN and MAX stand
 * for -1, the least and the greatest int. It knows all its calls, so that a twin of it can be made:
 * what is in an object is told by calls that change it, so a twin is spent on that.
 */
final class Asked {
    private static final int MOST_CALLS = 512, BAD = -2;
    private static final Map<String, Method> METHODS = new HashMap<>();

    static {
        for (Method method : RopeLadder.class.getDeclaredMethods()) {
            if (Modifier.isPublic(method.getModifiers())) METHODS.put(method.getName(), method);
        }
    }

    private final RopeLadder x = new RopeLadder();
    private final List<String> calls = new ArrayList<>();

    static Asked fresh() {
        return new Asked();
    }

    static Asked with(String swells) {
        return fresh().typed(0, swells);
    }

    static Asked with(String swells, String roll) {
        return with(swells).typed(1, roll);
    }

    Asked typed(int text, String bytes) {
        for (int i = 0; i < bytes.length(); i++) {
            ask("type(" + text + ", " + (int) bytes.charAt(i) + ")");
        }
        return this;
    }

    /** Settings by the number that set() has for them, each followed by its value. */
    Asked having(int... settings) {
        for (int i = 0; i < settings.length; i += 2) {
            ask("set(" + settings[i] + ", " + settings[i + 1] + ")");
        }
        return this;
    }

    Asked lee(int from, int many) {
        ask("lee(0, " + from + ")");
        ask("lee(1, " + many + ")");
        return this;
    }

    Asked sheet(int s, int form, int... items) {
        ask("sheet(" + s + ", " + form + ", " + items.length + ")");
        for (int i = 0; i < items.length; i++) {
            ask("put(" + s + ", " + form + ", " + i + ", " + items[i] + ")");
        }
        return this;
    }

    long ask(String call) {
        calls.add(call);
        if (calls.size() > MOST_CALLS) throw new IllegalStateException("a test with more than 512 calls");
        int open = call.indexOf('(');
        String inside = call.substring(open + 1, call.length() - 1);
        String[] words = inside.isEmpty() ? new String[0] : inside.split(", ");
        Object[] numbers = new Object[words.length];
        for (int i = 0; i < words.length; i++) numbers[i] = number(words[i]);
        try {
            return ((Number) METHODS.get(call.substring(0, open)).invoke(x, numbers)).longValue();
        } catch (InvocationTargetException | IllegalAccessException e) {
            throw new IllegalStateException(call, e);
        }
    }

    private static int number(String word) {
        switch (word) {
            case "NONE": return -1;
            case "MIN": return Integer.MIN_VALUE;
            case "MAX": return Integer.MAX_VALUE;
            default: return Integer.parseInt(word);
        }
    }

    Asked due(String call, long want) {
        Due.due(call, ask(call), want);
        return this;
    }

    /** The answers of a call whose one number, or whose first one, is told in order. */
    Asked dueFrom(int first, String call, long... wants) {
        for (int i = 0; i < wants.length; i++) {
            due(call.replace("#", "" + (first + i)), wants[i]);
        }
        return this;
    }

    Asked itemsDue(int s, int form, int... items) {
        for (int i = 0; i < items.length; i++) {
            due("get(" + s + ", " + form + ", " + i + ")", items[i]);
        }
        return this;
    }

    Asked twin() {
        Asked twin = new Asked();
        for (String call : calls) twin.ask(call);
        return twin;
    }

    /** Each is refused as BAD, and changes nothing. */
    Asked bad(String... refused) {
        for (String call : refused) refused(call, BAD);
        return this;
    }

    /** A call is refused and changes nothing, a FINDING count(8) alone. */
    Asked refused(String call, long want) {
        return refused(call, want, want <= -11 && want >= -15 ? (int) (-10 - want) : 0);
    }

    /** Likewise where the answer does not tell which FINDING it is; 0: it is none. */
    Asked refused(String call, long want, int finding) {
        Asked after = twin().due(call, want);
        Asked before = twin();
        long latest = finding == 0 ? before.ask("count(8)") : finding;
        Due.due("count(8) behind " + call, after.ask("count(8)"), latest);
        List<String> was = Portrait.of(before);
        List<String> is = Portrait.of(after);
        Due.due("answers behind " + call, is.size(), was.size());
        for (int i = 0; i < was.size() && i < is.size(); i++) {
            if (!is.get(i).equals(was.get(i))) {
                Due.due("changed by " + call + ": " + was.get(i) + ", now " + is.get(i), 1, 0);
                break;
            }
        }
        return this;
    }
}
