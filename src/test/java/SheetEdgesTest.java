/** Promises 32 to 37: the edges of SHEETS. FORMS: bytes 0, shorts 1, ints 2. */
public final class SheetEdgesTest {
    private static final int LEAST = Integer.MIN_VALUE, MOST = Integer.MAX_VALUE;
    private static final int NULL = 1, INDEX = 2, CAST = 3;

    private SheetEdgesTest() {
    }

    public static void main(String[] args) {
        Tests.run(SheetEdgesTest.class);
    }

    /** SHEETS 0 to 2 of a FORM each, of three items; 3 is LOST, and so the latest FINDING is NULL. */
    private static Asked some() {
        Asked x = Asked.with("410");
        for (int form = 0; form <= 2; form++) x.sheet(form, form, 7, 8, 9);
        return x.due("lose(3)", -11);
    }

    // ---- promise 32: sheet

    /** "SHEETS 0 .. 3." */
    static void theFirstAndTheLastSheet() {
        for (int s = 0; s <= 3; s++) {
            Asked.fresh().due("sheet(" + s + ", 2, 1)", 1).due("put(" + s + ", 2, 0, 5)", 1).due("get(" + s + ", 2, 0)", 5)
                .due("lose(" + s + ")", 1);
        }
        some().bad("sheet(-1, 0, 1)", "sheet(4, 0, 1)", "sheet(MIN, 0, 1)", "sheet(MAX, 0, 1)");
    }

    /** "A FORM: 0 bytes, 1 shorts, 2 ints." */
    static void theFirstAndTheLastForm() {
        for (int form = 0; form <= 2; form++) {
            Asked.fresh().due("sheet(0, " + form + ", 1)", 1).due("put(0, " + form + ", 0, 5)", 1);
        }
        some().bad("sheet(0, -1, 1)", "sheet(0, 3, 1)", "sheet(0, MIN, 1)", "sheet(0, MAX, 1)");
    }

    /** "Of 0 to 48 items": above 48 is BAD, below 0 is a FINDING. */
    static void theFewestAndTheMostItems() {
        for (int form = 0; form <= 2; form++) {
            String of = "sheet(3, " + form + ", ";
            Asked.fresh().due(of + "0)", 0).due("lose(3)", 0);
            Asked.fresh().due(of + "1)", 1).due("lose(3)", 1);
            Asked.fresh().due(of + "48)", 48).due("lose(3)", 48);
            some().bad(of + "49)", of + "MAX)").refused(of + "-1)", -15).refused(of + "MIN)", -15);
        }
        some().bad("sheet(0, 0, 49)").refused("sheet(0, 0, -1)", -15);
    }

    /** "Items (0 at first)." */
    static void allItemsOfANewRowAre0() {
        for (int form = 0; form <= 2; form++) {
            Asked x = Asked.fresh().due("sheet(1, " + form + ", 48)", 48);
            for (int i = 0; i < 48; i++) x.due("get(1, " + form + ", " + i + ")", 0);
        }
    }

    /** "A SHEET is a new row": nothing is left of the one that it was. */
    static void aNewRowHasNothingOfTheOldOne() {
        some().due("sheet(2, 2, 3)", 3).itemsDue(2, 2, 0, 0, 0);
        some().due("sheet(2, 2, 1)", 1).due("sheet(2, 2, 3)", 3).itemsDue(2, 2, 0, 0, 0);
        some().due("lose(2)", 3).due("sheet(2, 2, 3)", 3).itemsDue(2, 2, 0, 0, 0);
        some().due("sheet(2, 0, 3)", 3).itemsDue(2, 0, 0, 0, 0).refused("get(2, 2, 0)", LEAST, CAST);
    }

    // ---- promise 33: lose

    static void sheetsBesideThemAreNotLost() {
        some().bad("lose(-1)", "lose(4)", "lose(MIN)", "lose(MAX)");
    }

    static void aSheetIsLostOnce() {
        some().due("lose(1)", 3).refused("lose(1)", -11).due("lose(0)", 3).due("lose(2)", 3).refused("lose(3)", -11);
    }

    static void aLostSheetIsFoundByEachCall() {
        Asked x = some().due("lose(1)", 3);
        x.refused("put(1, 1, 0, 5)", -11).refused("get(1, 1, 0)", LEAST, NULL).refused("write(0, 1)", -11)
            .refused("read(1)", -11).refused("copy(1, 0, 0, 0, 0)", -11).refused("copy(0, 0, 1, 0, 0)", -11);
    }

    // ---- promises 34 and 35: put and get

    /** "There is no such item." */
    static void theFirstAndTheLastItem() {
        some().due("put(2, 2, 0, 1)", 1).due("put(2, 2, 2, 3)", 1).itemsDue(2, 2, 1, 8, 3);
        for (int form = 0; form <= 2; form++) {
            Asked x = some();
            for (String i : new String[] {"-1", "3", "47", "48", "MIN", "MAX"}) {
                String of = form + ", " + form + ", " + i;
                x.refused("put(" + of + ", 5)", -12).refused("get(" + of + ")", LEAST, INDEX);
            }
        }
    }

    static void theItemsOfAFullSheet() {
        for (int form = 0; form <= 2; form++) {
            Asked x = Asked.fresh().due("sheet(0, " + form + ", 48)", 48);
            for (int i = 0; i < 48; i++) x.due("put(0, " + form + ", " + i + ", " + (i + 1) + ")", 1);
            for (int i = 0; i < 48; i++) x.due("get(0, " + form + ", " + i + ")", i + 1);
            x.due("put(0, " + form + ", 48, 5)", -12).due("get(0, " + form + ", 48)", LEAST).due("count(8)", INDEX)
                .due("put(0, " + form + ", -1, 5)", -12).due("lose(0)", 48);
        }
    }

    static void anEmptySheetHasNoItem() {
        for (int form = 0; form <= 2; form++) {
            Asked x = Asked.fresh().sheet(0, form);
            x.refused("put(0, " + form + ", 0, 5)", -12).refused("get(0, " + form + ", 0)", LEAST, INDEX);
        }
    }

    static void itemsOfALostSheet() {
        for (int form = 0; form <= 2; form++) {
            some().refused("put(3, " + form + ", 0, 5)", -11).refused("get(3, " + form + ", 0)", LEAST, NULL);
        }
    }

    /** "It has another FORM." */
    static void itemsTreatedAsOfAnotherForm() {
        for (int has = 0; has <= 2; has++) {
            for (int as = 0; as <= 2; as++) {
                String of = has + ", " + as + ", 0";
                if (as == has) some().due("get(" + of + ")", 7).due("put(" + of + ", 5)", 1).due("get(" + of + ")", 5);
                else some().refused("put(" + of + ", 5)", -13).refused("get(" + of + ")", LEAST, CAST);
            }
        }
    }

    static void sheetsAndFormsBesideThemAreRefused() {
        Asked x = some();
        for (String no : new String[] {"-1", "4", "MIN", "MAX"}) {
            x.bad("put(" + no + ", 0, 0, 5)").refused("get(" + no + ", 0, 0)", LEAST, 0);
        }
        for (String no : new String[] {"-1", "3", "MIN", "MAX"}) {
            x.bad("put(0, " + no + ", 0, 5)").refused("get(0, " + no + ", 0)", LEAST, 0);
        }
    }

    private static void keeps(int form, long v, int kept) {
        some().due("put(" + form + ", " + form + ", 1, " + v + ")", 1).itemsDue(form, form, 7, kept, 9)
            .due("count(8)", NULL);
    }

    /** "The lowest bits that it has, with its sign." */
    static void bytesKeepTheLowest8Bits() {
        int[][] kept = {{0, 0}, {127, 127}, {128, -128}, {255, -1}, {256, 0}, {257, 1}, {-1, -1}, {-128, -128}, {-129, 127},
            {-256, 0}, {32767, -1}, {32768, 0}, {MOST, -1}, {LEAST, 0}, {384, -128}};
        for (int[] one : kept) keeps(0, one[0], one[1]);
    }

    static void shortsKeepTheLowest16Bits() {
        int[][] kept = {{0, 0}, {128, 128}, {255, 255}, {32767, 32767}, {32768, -32768}, {65535, -1}, {65536, 0}, {65537, 1},
            {-1, -1}, {-32768, -32768}, {-32769, 32767}, {MOST, -1}, {LEAST, 0}, {98304, -32768}};
        for (int[] one : kept) keeps(1, one[0], one[1]);
    }

    static void intsKeepAllBits() {
        for (int v : new int[] {0, 1, -1, 127, 128, 255, 256, 32767, 32768, 65535, 65536, MOST, LEAST}) keeps(2, v, v);
    }

    /** The least int is an item of ints, and no FINDING; count() 8 tells. */
    static void theLeastIntAsAnItem() {
        Asked.fresh().sheet(0, 2, LEAST).due("get(0, 2, 0)", LEAST).due("count(8)", 0).due("get(0, 2, 1)", LEAST)
            .due("count(8)", INDEX);
    }

    // ---- promise 36: copy

    /** SHEET 0: 1 to 5, SHEET 1: 6 to 8, both shorts; 2: bytes; 3 is LOST, and the latest FINDING is SIZE. */
    private static Asked rows() {
        return Asked.fresh().sheet(0, 1, 1, 2, 3, 4, 5).sheet(1, 1, 6, 7, 8).sheet(2, 0, 9, 9).due("sheet(3, 0, -1)", -15);
    }

    static void allItemsAreCopied() {
        rows().due("copy(1, 0, 0, 0, 3)", 1).itemsDue(0, 1, 6, 7, 8, 4, 5).itemsDue(1, 1, 6, 7, 8).due("count(8)", 5);
        rows().due("copy(0, 0, 0, 0, 5)", 1).itemsDue(0, 1, 1, 2, 3, 4, 5);
        rows().due("copy(1, 0, 0, 2, 3)", 1).itemsDue(0, 1, 1, 2, 6, 7, 8);
        rows().due("copy(0, 2, 1, 0, 3)", 1).itemsDue(1, 1, 3, 4, 5);
    }

    static void oneItemIsCopied() {
        rows().due("copy(0, 0, 1, 2, 1)", 1).itemsDue(1, 1, 6, 7, 1);
        rows().due("copy(0, 4, 1, 0, 1)", 1).itemsDue(1, 1, 5, 7, 8);
    }

    static void aFullSheetIsCopied() {
        Asked x = Asked.with("999").due("sheet(0, 2, 48)", 48).due("sheet(1, 2, 48)", 48).due("write(0, 0)", 48);
        x.due("copy(0, 0, 1, 0, 48)", 1).due("get(1, 2, 0)", 0).due("get(1, 2, 1)", 9).due("get(1, 2, 47)", 423);
        x.refused("copy(0, 0, 1, 0, 49)", -12).refused("copy(0, 1, 1, 0, 48)", -12).refused("copy(0, 0, 1, 1, 48)", -12);
        x.due("copy(0, 0, 0, 1, 47)", 1).due("get(0, 2, 1)", 0).due("get(0, 2, 47)", 414);
    }

    /** "Perhaps s, as they were." */
    static void itemsThatOverlapAreCopiedAsTheyWere() {
        rows().due("copy(0, 0, 0, 1, 4)", 1).itemsDue(0, 1, 1, 1, 2, 3, 4);
        rows().due("copy(0, 0, 0, 2, 3)", 1).itemsDue(0, 1, 1, 2, 1, 2, 3);
        rows().due("copy(0, 1, 0, 0, 4)", 1).itemsDue(0, 1, 2, 3, 4, 5, 5);
        rows().due("copy(0, 2, 0, 0, 3)", 1).itemsDue(0, 1, 3, 4, 5, 4, 5);
        rows().due("copy(0, 1, 0, 1, 3)", 1).itemsDue(0, 1, 1, 2, 3, 4, 5);
    }

    /** "With n 0, too, if i or j is above how many there are." */
    static void noItemsAreCopied() {
        rows().due("copy(0, 0, 1, 0, 0)", 1).due("copy(0, 5, 1, 3, 0)", 1).due("copy(1, 3, 1, 3, 0)", 1)
            .itemsDue(0, 1, 1, 2, 3, 4, 5).itemsDue(1, 1, 6, 7, 8).due("count(8)", 5)
            .refused("copy(0, 6, 1, 3, 0)", -12).refused("copy(0, 5, 1, 4, 0)", -12).refused("copy(0, -1, 1, 0, 0)", -12)
            .refused("copy(0, 0, 1, -1, 0)", -12).refused("copy(0, MAX, 1, 0, 0)", -12)
            .refused("copy(0, 0, 1, MAX, 0)", -12).refused("copy(0, MIN, 1, 0, 0)", -12);
    }

    static void emptySheetsAreCopied() {
        Asked x = Asked.fresh().sheet(0, 0).sheet(1, 0).due("copy(0, 0, 1, 0, 0)", 1).due("copy(0, 0, 0, 0, 0)", 1);
        x.refused("copy(0, 0, 1, 0, 1)", -12).refused("copy(0, 1, 1, 0, 0)", -12).refused("copy(0, 0, 1, 1, 0)", -12)
            .refused("copy(0, 0, 1, 0, -1)", -12);
    }

    /** "INDEX: below 0, not so many." */
    static void noSuchItemsToCopy() {
        String[] wrong = {"-1, 1, 0, 1", "0, 1, -1, 1", "0, 1, 0, -1", "0, 1, 0, 4", "3, 1, 0, 3", "0, 1, 1, 3",
            "5, 1, 0, 1", "4, 1, 0, 2", "0, 1, 3, 1", "0, 1, 2, 2", "0, 0, 3, 3", "0, 0, 0, 6"};
        for (String one : wrong) rows().refused("copy(0, " + one + ")", -12);
    }

    /** i and n together, or j and n, are more than an int holds. */
    static void farItemsToCopyDoNotWrap() {
        String[] wrong = {"1, 1, 0, MAX", "0, 1, 1, MAX", "MAX, 1, 0, 1", "0, 1, MAX, 1", "MAX, 1, MAX, MAX", "0, 1, 0, MIN",
            "MIN, 1, 0, 1", "0, 1, MIN, 1", "MIN, 1, MIN, MIN", "1, 0, 1, MAX", "-1, 0, -1, MIN"};
        for (String one : wrong) rows().refused("copy(0, " + one + ")", -12);
    }

    /** "STORE: unlike FORMS." */
    static void unlikeFormsAreNotCopied() {
        for (int s = 0; s <= 2; s++) {
            for (int t = 0; t <= 2; t++) {
                String call = "copy(" + s + ", 0, " + t + ", 0, 3)";
                if (s == t) some().due(call, 1);
                else some().refused(call, -14).refused("copy(" + s + ", 0, " + t + ", 0, 0)", -14);
            }
        }
    }

    static void lostSheetsAreNotCopied() {
        rows().refused("copy(3, 0, 0, 0, 1)", -11).refused("copy(0, 0, 3, 0, 1)", -11).refused("copy(3, 0, 3, 0, 0)", -11);
    }

    static void sheetsBesideThemAreNotCopied() {
        for (String no : new String[] {"-1", "4", "MIN", "MAX"}) {
            rows().bad("copy(" + no + ", 0, 0, 0, 1)", "copy(0, 0, " + no + ", 0, 1)",
                "copy(" + no + ", 0, " + no + ", 0, 0)");
        }
    }

    // ---- promise 37: write

    /** "As many as there are items and TENTHS." */
    static void asManyAsThereAreItems() {
        Asked.with("410").sheet(0, 2).due("write(0, 0)", 0).due("count(8)", 0);
        Asked.with("410").sheet(0, 2, 7).due("write(3, 0)", 1).itemsDue(0, 2, 12);
        Asked.with("410").due("sheet(0, 2, 48)", 48).due("write(0, 0)", 48).due("get(0, 2, 0)", 0)
            .due("get(0, 2, 45)", 20).due("get(0, 2, 47)", 12);
    }

    static void asManyAsThereAreTenths() {
        Asked.with("410").sheet(0, 2, 7, 7, 7).due("write(397, 0)", 3).itemsDue(0, 2, 12, 8, 4);
        Asked.with("410").sheet(0, 2, 7, 7, 7).due("write(398, 0)", 2).itemsDue(0, 2, 8, 4, 7);
        Asked.with("410").sheet(0, 2, 7, 7, 7).due("write(399, 0)", 1).itemsDue(0, 2, 4, 7, 7);
        Asked.with("410").due("sheet(0, 2, 48)", 48).due("write(352, 0)", 48).due("write(353, 0)", 47)
            .due("get(0, 2, 46)", 4).due("get(0, 2, 47)", 4);
    }

    static void tenthsAndSheetsBesideThemAreNotWritten() {
        some().bad("write(-1, 0)", "write(400, 0)", "write(MIN, 0)", "write(MAX, 0)", "write(0, -1)", "write(0, 4)",
            "write(0, MIN)", "write(0, MAX)");
    }

    static void noHeightsComeToALostSheet() {
        some().refused("write(0, 3)", -11).refused("write(399, 3)", -11);
    }

    /** "Of each the lowest bits": by 999 and 899 it stands 17 times as high as TENTHS: 119, 136, 255, 272. */
    static void heightsAsBytes() {
        Asked.with("999;899").sheet(0, 0, 1, 1).due("write(7, 0)", 2).itemsDue(0, 0, 119, -120).due("write(15, 0)", 2)
            .itemsDue(0, 0, -1, 16);
        Asked.with("899").sheet(0, 0, 1, 1).due("write(16, 0)", 2).itemsDue(0, 0, -128, -120).due("write(32, 0)", 2)
            .itemsDue(0, 0, 0, 8);
        Asked.with("999;999;999;999;999;999").sheet(0, 0, 1).due("high(49)", 2646).due("write(49, 0)", 1)
            .itemsDue(0, 0, 86);
    }

    static void heightsAsShortsAndInts() {
        Asked.with("999;999;999;999;999;999").sheet(0, 1, 1).sheet(1, 2, 1).due("write(49, 0)", 1).due("write(49, 1)", 1)
            .itemsDue(0, 1, 2646).itemsDue(1, 2, 2646);
    }

    static void heightsInLeeAreWritten() {
        Asked.with("410").lee(4, 2).sheet(0, 2, 1, 1, 1, 1).due("write(3, 0)", 4).itemsDue(0, 2, 12, 8, 10, 16);
    }
}
