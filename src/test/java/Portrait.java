import java.util.ArrayList;
import java.util.List;

/** All that can be told of an object but count(8), by at most 350 calls, which spend it. */
final class Portrait {
    private static final int[] LEAST_SETTINGS = {0, 1, 1, 0, 0, 0, 0, 0, 0, 0, 1, 0};
    private static final int NOT = -3, NULL = 1, CAST = 3, MOST_ITEMS = 48;

    private final Asked x;
    private final List<String> told = new ArrayList<>();

    private Portrait(Asked x) {
        this.x = x;
    }

    static List<String> of(Asked x) {
        Portrait portrait = new Portrait(x);
        portrait.tellCounts();
        for (int s = 0; s <= 3; s++) portrait.tellSheet(s);
        portrait.tellSettings();
        for (int text = 0; text <= 1; text++) portrait.tellText(text);
        portrait.tell("forget()");
        return portrait.told;
    }

    private long tell(String call) {
        long answer = x.ask(call);
        told.add(call + " " + answer);
        return answer;
    }

    private void tellCounts() {
        for (int what = 0; what <= 7; what++) tell("count(" + what + ")");
        tell("fault(0)");
        tell("fault(1)");
        tell("digest()");
        for (int swell = 0; swell <= 5; swell++) {
            tell("swell(" + swell + ", 0)");
            tell("swell(" + swell + ", 1)");
            tell("learn(" + swell + ", NONE)");
        }
        tell("roll(0)");
        tell("roll(1)");
    }

    private void tellSheet(int s) {
        int form = 0;
        // A SIZE each time, so that a FINDING of get() can be told from the one ahead of it.
        for (int tried = 0; tried <= 2; tried++) {
            tell("sheet(0, 0, -1)");
            tell("get(" + s + ", " + tried + ", 0)");
            long finding = tell("count(8)");
            if (finding == NULL) return;
            if (finding != CAST) form = tried;
        }
        for (int i = 1; i <= MOST_ITEMS; i++) tell("get(" + s + ", " + form + ", " + i + ")");
        tell("lose(" + s + ")");
    }

    private void tellSettings() {
        for (int what = 0; what < LEAST_SETTINGS.length; what++) {
            tell("set(" + what + ", " + LEAST_SETTINGS[what] + ")");
        }
        for (int swell = 0; swell <= 5; swell++) tell("begins(" + swell + ", 0)");
        tell("lee(0, 0)");
        tell("lee(1, 0)");
    }

    private void tellText(int text) {
        for (int i = 0; i <= 23; i++) {
            tell("fault(" + text + ")");
            if (tell("undo(" + text + ")") == NOT) return;
        }
    }
}
