/** "What it is": an object is used for at most 512 calls; and "Promise 1": each one is new. */
public final class ObjectEdgesTest {
    private static final int MOST_CALLS = 512;

    private ObjectEdgesTest() {
    }

    public static void main(String[] args) {
        Tests.run(ObjectEdgesTest.class);
    }

    /** Calls come ahead of it till it is the 512th one. */
    private static void lastIsDue(Asked x, int ahead, String call, String last, long want) {
        for (int i = ahead + 1; i < MOST_CALLS; i++) x.ask(call);
        x.due(last, want);
    }

    static void the512thCallAnswers() {
        lastIsDue(Asked.with("410"), 3, "night(7, 20)", "high(5)", 20);
        lastIsDue(Asked.with("410"), 3, "digest()", "best(0, 100)", 5);
        lastIsDue(Asked.fresh(), 0, "sheet(3, 2, 48)", "put(3, 2, 47, 1)", 1);
        lastIsDue(Asked.fresh(), 0, "get(0, 0, 0)", "count(8)", 1);
        lastIsDue(Asked.with("410"), 3, "begins(0, 98)", "high(5)", 12);
        lastIsDue(Asked.with("410"), 3, "safe(5, 0)", "safe(5, 1)", 16);
    }

    /** Far more than any text, or all that can be SEEN, takes. */
    static void the512thCallIsRefused() {
        lastIsDue(Asked.fresh(), 0, "type(0, 52)", "type(0, 52)", -4);
        lastIsDue(Asked.fresh(), 0, "type(1, 52)", "count(2)", 3);
        lastIsDue(Asked.fresh(), 0, "seen(0, 0)", "seen(0, 0)", -4);
        lastIsDue(Asked.fresh(), 0, "undo(0)", "undo(0)", -3);
    }

    /** A text typed and wiped, and all SEEN and forgotten, again and again. */
    static void all512CallsChangeSomething() {
        Asked x = Asked.fresh();
        for (int i = 0; i < 128; i++) {
            x.due("type(1, 51)", 1).due("wipe(1)", 1).due("seen(399, 3000)", 1).due("forget()", 1);
        }
    }

    /** What one object was told is not known to another one, older or newer. */
    static void objectsAreApart() {
        Asked older = Asked.fresh();
        Asked x = Asked.with("410;307", "312").lee(30, 60).sheet(0, 2, 7, 8).sheet(3, 0, 9);
        x.having(0, 99, 1, 3, 2, 7, 3, 50, 4, 9, 5, 9, 6, 9, 7, 9, 8, 9, 9, 9, 10, 9, 11, 9);
        x.due("begins(0, 7)", 0).due("seen(7, 12)", 1).due("get(1, 0, 0)", Integer.MIN_VALUE).ask("night(7, 5)");
        Due.due("a new object", Portrait.of(Asked.fresh()).equals(Portrait.of(older)) ? 1 : 0, 1);
        Asked newer = Asked.fresh();
        newer.due("digest()", 5956617078986867966L).due("count(8)", 0).due("lose(0)", -11).due("lose(3)", -11);
        newer.due("begins(0, 0)", 0).due("lee(0, 0)", 0).due("lee(1, 0)", 0);
    }

    /** One object between the calls of another one: neither answers otherwise. */
    static void objectsInTurn() {
        Asked x = Asked.with("410");
        Asked y = Asked.with("310");
        x.due("high(5)", 20);
        y.due("high(5)", 15);
        x.due("sheet(0, 2, 3)", 3);
        y.due("put(0, 2, 0, 1)", -11);
        x.due("count(8)", 0).due("write(4, 0)", 3).itemsDue(0, 2, 16, 20, 16);
        y.due("count(8)", 1).due("climb(5)", 23).due("bangs(5)", 0);
        x.due("climb(5)", 23).due("bangs(5)", 0).due("high(5)", 20);
    }
}
