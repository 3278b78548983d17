/** Promises 1 to 7: the edges of the texts, of FAULT, of SWELLS and ROLL. */
public final class TextEdgesTest {
    private static final String SIX = "410;310;205;999;002;120";

    private TextEdgesTest() {
    }

    public static void main(String[] args) {
        Tests.run(TextEdgesTest.class);
    }

    // ---- promise 1: "No SWELLS, no ROLL; all SHEETS are LOST."

    static void aNewObjectHasNoSwells() {
        Asked.fresh().due("count(0)", 0).due("count(1)", 0).due("count(3)", 0).due("fault(0)", -1)
            .bad("swell(0, 0)", "swell(0, 1)", "learn(0, NONE)");
    }

    static void aNewObjectHasNoRoll() {
        Asked.fresh().due("roll(0)", -1).due("roll(1)", -1).due("count(2)", 0).due("fault(1)", -1)
            .due("leans(0)", 0).due("leans(399)", 0);
    }

    static void allSheetsOfANewObjectAreLost() {
        for (int s = 0; s <= 3; s++) {
            Asked.fresh().refused("lose(" + s + ")", -11).refused("get(" + s + ", 0, 0)", Integer.MIN_VALUE, 1);
        }
    }

    static void aNewObjectHasNoFinding() {
        Asked.fresh().due("count(8)", 0);
    }

    static void aNewObjectHasTheSettingsToldAtFirst() {
        int[] first = {20, 9, 3, 5, 0, 2, 3, 1, 1, 1, 2, 1};
        Asked x = Asked.fresh().due("count(6)", 20).due("count(5)", 0).due("lee(0, 7)", 0).due("lee(1, 7)", 0);
        for (int what = 0; what <= 11; what++) x.due("set(" + what + ", 4)", first[what]);
        for (int swell = 0; swell <= 5; swell++) x.due("begins(" + swell + ", 4)", 0);
    }

    // ---- promises 2 to 4: texts, empty and full

    /** "A text of up to 23 bytes (text 0)." */
    static void text0TakesTwentyThreeBytes() {
        Asked x = Asked.fresh();
        for (int many = 1; many <= 23; many++) x.due("type(0, 120)", many);
        x.refused("type(0, 120)", -4).due("type(0, 120)", -4).due("count(1)", 23);
    }

    /** "A text of up to 3 bytes (text 1)." */
    static void text1TakesThreeBytes() {
        Asked x = Asked.fresh().due("type(1, 120)", 1).due("type(1, 120)", 2).due("type(1, 120)", 3);
        x.refused("type(1, 120)", -4).due("type(1, 120)", -4).due("count(2)", 3);
    }

    static void aFullTextTakesAByteAgainOnceOneIsUndone() {
        Asked.with(SIX, "312").due("undo(0)", 22).due("type(0, 53)", 23).refused("type(0, 53)", -4)
            .due("swell(5, 1)", 25).due("undo(1)", 2).due("type(1, 53)", 3).refused("type(1, 53)", -4)
            .due("roll(1)", 15);
    }

    static void aFullTextIsWiped() {
        Asked.with(SIX, "312").due("wipe(0)", 23).due("count(1)", 0).due("type(0, 52)", 1)
            .due("wipe(1)", 3).due("count(2)", 0).due("type(1, 52)", 1);
    }

    static void anEmptyTextIsWipedOfNothing() {
        Asked.fresh().due("wipe(0)", 0).due("wipe(1)", 0).due("fault(0)", -1).due("fault(1)", -1);
    }

    /** "NOT: it is empty." */
    static void anEmptyTextHasNothingToUndo() {
        Asked.fresh().refused("undo(0)", -3).refused("undo(1)", -3);
        Asked.with("41", "31").due("undo(0)", 1).due("undo(0)", 0).refused("undo(0)", -3)
            .due("undo(1)", 1).due("undo(1)", 0).refused("undo(1)", -3);
        Asked.with("41", "31").due("wipe(0)", 2).refused("undo(0)", -3).due("undo(1)", 1);
    }

    static void anEmptyOneOfTheTextsIsNotTheOther() {
        Asked.with("410").refused("undo(1)", -3).due("undo(0)", 2);
        Asked.with("", "410").refused("undo(0)", -3).due("undo(1)", 2);
        Asked.with("", "410").due("type(0, 49)", 1).due("wipe(1)", 3).due("count(1)", 1);
        Asked.with(SIX).refused("type(0, 49)", -4).due("type(1, 49)", 1);
    }

    /** What a text told is gone with its bytes: heights, ROLL and what rests on them. */
    static void aWipedTextTellsNothingMore() {
        Asked.with("410", "312").due("high(5)", 20).due("wipe(0)", 3).due("count(0)", 0).due("count(7)", 0)
            .due("high(5)", 0).due("does(5)", 0).due("crest(0, 1)", -1).due("leans(0)", 1).bad("swell(0, 0)");
        Asked.with("410", "312").due("leans(0)", 1).due("wipe(1)", 3).due("roll(0)", -1).due("leans(0)", 0)
            .due("high(5)", 20);
    }

    static void aTextThatIsUndoneTellsNothingMore() {
        Asked.with("410;310", "312").due("high(5)", 35).due("undo(0)", 6).due("high(5)", 0).due("undo(0)", 5)
            .due("undo(0)", 4).due("high(5)", 0).due("undo(0)", 3).due("high(5)", 20).due("leans(0)", 1)
            .due("undo(1)", 2).due("leans(0)", 0);
    }

    /** "A byte (0 to 255)." */
    static void theLeastAndTheGreatestByteAreTaken() {
        Asked.fresh().due("type(0, 0)", 1).due("type(0, 255)", 2).due("type(1, 0)", 1).due("type(1, 255)", 2);
    }

    /** 304 and -208 would be the figure 0 by their lowest bits. */
    static void theBytesBesideThemAreRefused() {
        Asked.with("4", "3").bad("type(0, -1)", "type(0, 256)", "type(0, 304)", "type(0, -208)", "type(0, MIN)",
            "type(0, MAX)", "type(1, -1)", "type(1, 256)", "type(1, MIN)", "type(1, MAX)");
    }

    static void textsBesideThemAreRefused() {
        Asked x = Asked.with("410", "312");
        for (String text : new String[] {"-1", "2", "MIN", "MAX"}) {
            x.bad("type(" + text + ", 48)", "wipe(" + text + ")", "undo(" + text + ")", "fault(" + text + ")");
        }
    }

    // ---- promise 5: FAULT

    private static void faultDue(String text, int fault) {
        Due.due("fault of " + text, Asked.with(text).ask("fault(0)"), fault);
        if (text.length() <= 3) {
            Due.due("fault of roll " + text, Asked.with("", text).ask("fault(1)"), fault);
        }
    }

    /** "An empty one is well." */
    static void anEmptyTextIsWell() {
        faultDue("", -1);
        Asked.with("4", "3").due("undo(0)", 0).due("fault(0)", -1).due("undo(1)", 0).due("fault(1)", -1);
        Asked.with("x", "x").due("wipe(0)", 1).due("fault(0)", -1).due("wipe(1)", 1).due("fault(1)", -1);
    }

    /** "Of one that is not ended, its end." */
    static void theFaultOfATextThatIsNotEndedIsItsEnd() {
        for (int size = 1; size <= SIX.length(); size++) {
            faultDue(SIX.substring(0, size), size % 4 == 3 ? -1 : size);
        }
    }

    /** A figure: 0 to 9, at each place where one is due; / and : stand beside them. */
    static void justFiguresAreFigures() {
        String well = "410;312";
        for (int place : new int[] {0, 1, 2, 4, 5, 6}) {
            for (char other : new char[] {'/', ':', ';', ' ', 'a', 0, 176, 185, 255}) {
                faultDue(well.substring(0, place) + other + well.substring(place + 1), place);
                faultDue(well.substring(0, place) + other, place);
            }
            faultDue(well.substring(0, place) + '9' + well.substring(place + 1), -1);
        }
    }

    /** "With ; between them": : and < stand beside it, and 187 has its lowest bits. */
    static void justASemicolonStandsBetween() {
        for (char other : new char[] {':', '<', ',', ' ', '0', '9', 0, 187, 255}) {
            faultDue("410" + other + "312", 3);
            faultDue("410" + other, 3);
            faultDue("410;312" + other, 7);
        }
        faultDue("410;;312", 4);
        faultDue(";410", 0);
    }

    /** "HEIGHT (0 to 9)." */
    static void theLeastAndTheGreatestHeight() {
        Asked.with("010;910", "010").due("fault(0)", -1).due("swell(0, 0)", 0).due("swell(1, 0)", 9)
            .due("fault(1)", -1).due("roll(0)", 0);
        Asked.with("", "910").due("roll(0)", 9);
    }

    /** "LENGTH in tenths (02 to 99)." */
    static void theLeastAndTheGreatestLength() {
        Asked.with("402;499", "402").due("fault(0)", -1).due("swell(0, 1)", 2).due("swell(1, 1)", 99)
            .due("fault(1)", -1).due("roll(1)", 2);
        Asked.with("", "499").due("roll(1)", 99);
    }

    /** "Also of the second figure of a LENGTH of 00 or 01." */
    static void aLengthOf00Or01IsAFaultAtItsSecondFigure() {
        faultDue("400", 2);
        faultDue("401", 2);
        faultDue("402", -1);
        faultDue("410", -1);
        faultDue("420", -1);
        faultDue("421", -1);
        faultDue("401;410", 2);
        faultDue("410;300", 6);
        faultDue("410;301", 6);
        faultDue("410;302", -1);
        for (int place = 0; place <= 20; place += 4) {
            faultDue(SIX.substring(0, place) + "100", place + 2);
            faultDue(SIX.substring(0, place) + "101", place + 2);
            faultDue(SIX.substring(0, place) + "102", -1);
            faultDue(SIX.substring(0, place) + "110", -1);
        }
        faultDue("40", 2);
    }

    static void ofTwoFaultsTheFirstIsTold() {
        faultDue("x1x", 0);
        faultDue("4x0", 1);
        faultDue("400;x", 2);
        faultDue("410x400", 3);
        faultDue("410;300;x", 6);
    }

    /** "6 at most": the first byte of a seventh, or of a second ROLL, is behind the last byte of a full text. */
    static void aSeventhSwellCannotBeTyped() {
        Asked.with(SIX).due("fault(0)", -1).due("count(0)", 6).refused("type(0, 59)", -4).refused("type(0, 52)", -4)
            .due("fault(0)", -1).due("count(0)", 6);
        Asked.with("", "312").refused("type(1, 59)", -4).refused("type(1, 52)", -4).due("fault(1)", -1)
            .due("roll(1)", 12);
    }

    /** "With a FAULT a text is as if it was empty." */
    static void textZeroWithAFaultIsAsIfItWasEmpty() {
        for (String text : new String[] {"410;", "410;3", "410;31", "410;300", "410:", "410;31x", "4x0;312", "x"}) {
            Asked.with(text).due("count(0)", 0).due("count(3)", 0).due("count(4)", 0).due("count(7)", 0)
                .due("high(5)", 0).due("does(5)", 0).due("crest(0, 1)", -1).due("seventh(0)", -1)
                .due("night(1, 20)", 0).bad("swell(0, 0)", "swell(0, 1)", "learn(0, NONE)");
        }
    }

    static void textOneWithAFaultIsAsIfItWasEmpty() {
        for (String text : new String[] {"3", "31", "300", "301", "3x2", "x"}) {
            Asked.with("", text).due("roll(0)", -1).due("roll(1)", -1).due("leans(0)", 0).due("leans(5)", 0)
                .due("bangs(5)", 0).due("climb(0)", 18);
        }
    }

    static void theBytesOfATextWithAFaultStay() {
        Asked.with("410;x", "3x").due("count(1)", 5).due("count(2)", 2).due("undo(0)", 4).due("undo(0)", 3)
            .due("high(5)", 20).due("undo(1)", 1).due("type(1, 49)", 2).due("type(1, 50)", 3).due("roll(1)", 12);
    }

    static void aFaultLeavesTheOtherTextAsItIs() {
        Asked.with("410;", "312").due("roll(1)", 12).due("leans(0)", 1).due("fault(1)", -1).due("fault(0)", 4);
        Asked.with("410", "31").due("swell(0, 1)", 10).due("high(5)", 20).due("fault(0)", -1).due("fault(1)", 2);
    }

    // ---- promises 6 and 7

    /** "6 at most (0 on)." */
    static void theFirstAndTheLastOfSixSwells() {
        Asked.with(SIX).due("swell(0, 0)", 4).due("swell(0, 1)", 10).due("swell(5, 0)", 1).due("swell(5, 1)", 20)
            .bad("swell(-1, 0)", "swell(6, 0)", "swell(-1, 1)", "swell(6, 1)", "swell(MIN, 0)", "swell(MAX, 0)");
    }

    static void theLastSwellThereIs() {
        for (int many = 1; many <= 5; many++) {
            Asked x = Asked.with(SIX.substring(0, 4 * many - 1)).due("count(0)", many);
            x.due("swell(" + (many - 1) + ", 0)", SIX.charAt(4 * many - 4) - '0');
            x.bad("swell(" + many + ", 0)", "swell(" + many + ", 1)");
        }
    }

    static void whatOfASwellIs0Or1() {
        Asked.with("410").bad("swell(0, -1)", "swell(0, 2)", "swell(0, MIN)", "swell(0, MAX)", "swell(1, 2)");
    }

    static void whatOfRollIs0Or1() {
        Asked.with("", "312").due("roll(0)", 3).due("roll(1)", 12).bad("roll(-1)", "roll(2)", "roll(MIN)", "roll(MAX)");
        Asked.fresh().bad("roll(-1)", "roll(2)", "roll(MIN)", "roll(MAX)");
    }
}
