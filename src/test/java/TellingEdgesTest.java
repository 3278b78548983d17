/** Promises 38 and 39: the edges of count() and digest(). */
public final class TellingEdgesTest {
    private TellingEdgesTest() {
    }

    public static void main(String[] args) {
        Tests.run(TellingEdgesTest.class);
    }

    // ---- promise 38: count

    static void theFirstAndTheLastCount() {
        Asked.with("410", "312").due("count(0)", 1).due("count(8)", 0)
            .bad("count(-1)", "count(9)", "count(MIN)", "count(MAX)", "count(256)");
    }

    static void theFewestAndTheMostSwells() {
        Asked.fresh().due("count(0)", 0).due("count(3)", 0);
        Asked.with("999;999;999;999;999;999").due("count(0)", 6).due("count(3)", 54);
        Asked.with("002;002;002;002;002;002").due("count(0)", 6).due("count(3)", 0);
        Asked.with("410").due("count(0)", 1).due("count(3)", 4);
    }

    static void theFewestAndTheMostBytes() {
        Asked.fresh().due("count(1)", 0).due("count(2)", 0);
        Asked.with("xxxxxxxxxxxxxxxxxxxxxxx", "xxx").due("count(1)", 23).due("count(2)", 3);
        Asked.with("999;999;999;999;999;999", "999").due("count(1)", 23).due("count(2)", 3);
    }

    /** It tops in 1, 3 .. 397 by 102, in 2, 4 .. 398 with BEGINS 1, never in TENTHS 0 and 399. */
    static void theFewestAndTheMostTops() {
        Asked.fresh().due("count(4)", 0);
        Asked x = Asked.with("102").due("count(4)", 199);
        x.due("begins(0, 1)", 0).due("count(4)", 199);
        Asked y = Asked.with("199").due("count(4)", 4);
        y.due("begins(0, 49)", 0).due("high(0)", 49).due("high(1)", 49).due("crest(0, 1)", 1);
        y.due("begins(0, 50)", 49).due("high(1)", 48).due("crest(0, 1)", 99).due("count(4)", 4);
    }

    static void theFewestAndTheMostSeen() {
        Asked x = Asked.fresh().due("count(5)", 0);
        for (int many = 1; many <= 8; many++) x.due("seen(0, 0)", many).due("count(5)", many);
        x.due("seen(0, 0)", -4).due("count(5)", 8);
    }

    static void theLeastAndTheGreatestFoot() {
        Asked.fresh().due("count(6)", 20).having(0, 0).due("count(6)", 0).having(0, 999).due("count(6)", 999);
    }

    /** "The greatest height in all TENTHS", by LEE, the first and the last one too. */
    static void theGreatestHeightInAllTenths() {
        Asked.fresh().due("count(7)", 0);
        Asked.with("410").due("count(7)", 20);
        Asked.with("999;999;999;999;999;999").due("count(7)", 2646);
        Asked first = Asked.with("199").lee(1, 399);
        first.due("begins(0, 49)", 0).due("count(7)", 49).due("high(1)", 24);
        Asked last = Asked.with("199").lee(0, 399);
        last.due("begins(0, 46)", 0).due("high(399)", 49).due("high(398)", 24).due("count(7)", 49);
        last.due("begins(0, 45)", 46).due("count(7)", 48);
    }

    /** "0 before any." */
    static void noFindingBeforeAny() {
        Asked x = Asked.with("410");
        x.due("count(8)", 0).due("undo(1)", -3).due("type(2, 0)", -2).due("sheet(0, 0, 49)", -2).due("count(8)", 0);
    }

    static void theNumberOfEachFinding() {
        Asked x = Asked.fresh().sheet(0, 0, 1).sheet(1, 1, 1);
        x.due("lose(3)", -11).due("count(8)", 1).due("put(0, 0, 1, 0)", -12).due("count(8)", 2)
            .due("put(0, 1, 0, 0)", -13).due("count(8)", 3).due("copy(0, 0, 1, 0, 1)", -14).due("count(8)", 4)
            .due("sheet(0, 0, -1)", -15).due("count(8)", 5);
    }

    static void getTellsItsFindingByCount() {
        Asked x = Asked.fresh().sheet(0, 0, 1);
        x.due("get(3, 0, 0)", Integer.MIN_VALUE).due("count(8)", 1).due("get(0, 0, 1)", Integer.MIN_VALUE)
            .due("count(8)", 2).due("get(0, 1, 0)", Integer.MIN_VALUE).due("count(8)", 3)
            .due("get(4, 0, 0)", Integer.MIN_VALUE).due("count(8)", 3);
    }

    /** "The latest FINDING": neither what goes well nor another refusal takes it away. */
    static void theLatestFindingStays() {
        Asked x = Asked.fresh().sheet(0, 0, 1);
        x.due("get(0, 0, 9)", Integer.MIN_VALUE).due("get(0, 0, 0)", 1).due("put(0, 0, 0, 2)", 1)
            .due("copy(0, 0, 0, 0, 1)", 1).due("sheet(1, 0, 1)", 1).due("lose(1)", 1).due("write(0, 0)", 1)
            .due("read(0)", 0).due("undo(0)", -3).due("type(9, 9)", -2).due("high(400)", -2).due("count(9)", -2)
            .due("count(8)", 2);
        for (int many = 1; many <= 8; many++) x.due("seen(0, 0)", many);
        x.due("seen(0, 0)", -4).due("count(8)", 2).ask("digest()");
        x.due("count(8)", 2);
    }

    // ---- promise 39: digest

    /** Reckoned by hand (as longs that wrap) from the answers of a new object, without the class. */
    static void theDigestOfANewObject() {
        Asked.fresh().due("digest()", 5956617078986867966L);
    }

    private static void dueByCalls(Asked x) {
        long h = 17;
        for (int what = 0; what <= 7; what++) h = 31 * h + x.ask("count(" + what + ")");
        h = 31 * h + x.ask("fault(0)");
        h = 31 * h + x.ask("fault(1)");
        long swells = x.ask("count(0)");
        for (int it = 0; it < swells; it++) {
            h = 31 * h + x.ask("swell(" + it + ", 0)");
            h = 31 * h + x.ask("swell(" + it + ", 1)");
            h = 31 * h + x.ask("learn(" + it + ", NONE)");
            h = 31 * h + x.ask("learn(" + it + ", 0)");
        }
        h = 31 * h + x.ask("roll(0)");
        h = 31 * h + x.ask("roll(1)");
        String[] asked = {"high(#)", "does(#)", "leans(#)", "crest(#, 2)", "seventh(#)", "lull(#, 20, 0)", "lull(#, 20, 1)",
            "step(#)", "fall(#)", "climb(#)", "bangs(#)", "safe(#, 0)", "safe(#, 1)", "best(#, 30)", "call(#, 30)",
            "down(#, 30, 0)", "down(#, 30, 1)", "ladder(#, 30)"};
        for (String tenth : new String[] {"0", "1", "37", "200", "399"}) {
            for (String call : asked) h = 31 * h + x.ask(call.replace("#", tenth));
        }
        h = 31 * h + x.ask("saves()");
        h = 31 * h + x.ask("night(7, 5)");
        x.due("digest()", h);
    }

    static void theDigestIsMadeOfTheCalls() {
        dueByCalls(Asked.fresh());
        dueByCalls(Asked.with("410", "312"));
        dueByCalls(Asked.with("410;310;205;999;002;120", "112").lee(30, 60).having(0, 120, 3, 50, 10, 1));
        dueByCalls(Asked.with("410;", "31"));
        dueByCalls(Asked.with("410;307", "308").due("leans(37)", 2).due("leans(200)", 1).due("leans(399)", 1));
        Asked seen = Asked.with("410;307");
        seen.due("seen(7, 12)", 1);
        dueByCalls(seen);
    }

    /** It tops in TENTH 29, the last of 30 from 0 on, and in TENTH 30, the one behind. */
    static void theDigestAsksForBestWithin30() {
        dueByCalls(Asked.with("158").having(0, 99, 1, 1, 3, 99).due("best(0, 30)", 29).due("best(0, 29)", 0));
        dueByCalls(Asked.with("160").having(0, 99, 1, 1, 3, 99).due("best(0, 30)", 0).due("best(0, 31)", 30));
    }

    /** All who go get up: five of them. */
    static void theDigestAsksForANightOfFive() {
        dueByCalls(Asked.with("410").having(1, 1, 2, 30, 3, 99, 4, 0, 5, 0, 6, 0, 7, 0, 9, 0, 10, 1)
            .due("night(7, 4)", 4).due("night(7, 5)", 5).due("night(7, 6)", 6));
    }

    private static void changesDigest(String call) {
        Asked x = Asked.with("410;307", "312").lee(190, 20).having(0, 20, 3, 50);
        long was = x.ask("digest()");
        x.ask(call);
        Due.due("digest() is another one by " + call, x.ask("digest()") == was ? 1 : 0, 0);
    }

    static void theDigestTellsWhatChanges() {
        for (String call : new String[] {"type(0, 59)", "undo(0)", "wipe(0)", "undo(1)", "wipe(1)", "begins(0, 3)",
            "begins(1, 3)", "lee(0, 199)", "lee(1, 7)", "seen(5, 26)", "set(0, 31)", "set(1, 1)", "set(2, 1)", "set(3, 9)",
            "set(4, 7)", "set(5, 7)", "set(6, 7)", "set(8, 7)", "set(9, 7)", "set(10, 1)", "set(11, 2)"}) {
            changesDigest(call);
        }
    }

    static void theDigestTellsNoFindingAndNoSheet() {
        Asked x = Asked.with("410;307", "312");
        long was = x.ask("digest()");
        x.due("lose(0)", -11).due("digest()", was).due("sheet(0, 0, 3)", 3).due("digest()", was).due("write(4, 0)", 3)
            .due("digest()", was);
    }
}
