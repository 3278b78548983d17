/** Promises 8 to 10: the edges of BEGINS, LEE and the settings. */
public final class SettingEdgesTest {
    private static final int[] FIRST = {20, 9, 3, 5, 0, 2, 3, 1, 1, 1, 2, 1};
    private static final int[] LEAST = {0, 1, 1, 0, 0, 0, 0, 0, 0, 0, 1, 0};
    private static final int[] MOST = {999, 12, 30, 99, 16, 16, 16, 16, 16, 16, 9, 9};

    private SettingEdgesTest() {
    }

    public static void main(String[] args) {
        Tests.run(SettingEdgesTest.class);
    }

    /** "BEGINS of a SWELL (0 to 5; 0 to 98; 0 at first)." */
    static void theLeastAndTheGreatestBeginOfEachSwell() {
        Asked x = Asked.fresh();
        for (int swell = 0; swell <= 5; swell++) {
            x.due("begins(" + swell + ", 98)", 0).due("begins(" + swell + ", 0)", 98)
                .due("begins(" + swell + ", " + swell + ")", 0);
        }
        for (int swell = 0; swell <= 5; swell++) x.due("begins(" + swell + ", 50)", swell);
    }

    static void beginsBesideThemAreRefused() {
        Asked x = Asked.with("410;310");
        x.due("begins(0, 7)", 0).due("begins(5, 9)", 0);
        x.bad("begins(0, -1)", "begins(0, 99)", "begins(5, -1)", "begins(5, 99)", "begins(0, MIN)", "begins(0, MAX)",
            "begins(-1, 0)", "begins(6, 0)", "begins(MIN, 0)", "begins(MAX, 0)", "begins(6, 99)", "begins(0, 256)");
        x.due("begins(0, 0)", 7).due("begins(5, 0)", 9);
    }

    /** SWELLS are counted from 0 to 5, whether there are any or not. */
    static void aSwellThatIsNotThereYetBeginsToo() {
        Asked x = Asked.fresh();
        x.due("begins(1, 5)", 0).typed(0, "010;410").due("high(0)", 20).due("high(5)", 0);
        x.due("wipe(0)", 7).due("begins(1, 5)", 5);
    }

    /** "LEE: from a TENTH (0 to 399; 0 at first) on so many TENTHS (0 to 399; 0 at first)." */
    static void theLeastAndTheGreatestLee() {
        Asked.fresh().due("lee(0, 399)", 0).due("lee(0, 0)", 399).due("lee(0, 1)", 0).due("lee(1, 399)", 0)
            .due("lee(1, 0)", 399).due("lee(1, 2)", 0).due("lee(0, 0)", 1).due("lee(1, 0)", 2);
    }

    static void leesBesideThemAreRefused() {
        Asked.with("410").lee(11, 22).bad("lee(0, -1)", "lee(0, 400)", "lee(1, -1)", "lee(1, 400)", "lee(0, MIN)",
            "lee(0, MAX)", "lee(1, MIN)", "lee(1, MAX)", "lee(-1, 0)", "lee(2, 0)", "lee(MIN, 0)", "lee(MAX, 0)",
            "lee(2, 400)").due("lee(0, 0)", 11).due("lee(1, 0)", 22);
    }

    static void theLeastAndTheGreatestOfEachSetting() {
        Asked x = Asked.fresh();
        for (int what = 0; what <= 11; what++) {
            x.due("set(" + what + ", " + MOST[what] + ")", FIRST[what])
                .due("set(" + what + ", " + LEAST[what] + ")", MOST[what])
                .due("set(" + what + ", " + MOST[what] + ")", LEAST[what]);
        }
        for (int what = 0; what <= 11; what++) x.due("set(" + what + ", 1)", MOST[what]);
    }

    static void whatIsBesideThemIsRefused() {
        for (int what = 0; what <= 11; what++) {
            String of = "set(" + what + ", ";
            Asked.fresh().bad(of + (LEAST[what] - 1) + ")", of + (MOST[what] + 1) + ")", of + "MIN)", of + "MAX)",
                of + (LEAST[what] + 65536) + ")").due(of + "1)", FIRST[what]);
        }
    }

    static void theFirstAndTheLastSetting() {
        Asked.fresh().bad("set(-1, 1)", "set(12, 1)", "set(MIN, 1)", "set(MAX, 1)", "set(12, 1000)")
            .due("set(0, 21)", 20).due("set(11, 9)", 1);
    }

    /** Each setting is one of its own. */
    static void settingsAreApart() {
        Asked x = Asked.fresh();
        for (int what = 0; what <= 11; what++) x.ask("set(" + what + ", " + (LEAST[what] + what % 8) + ")");
        for (int what = 0; what <= 11; what++) x.due("set(" + what + ", 1)", LEAST[what] + what % 8);
    }
}
