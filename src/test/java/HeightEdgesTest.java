/** Promises 11 to 16: the edges of heights, of what the CUTTER does, of leaning, of CRESTS and LULLS. */
public final class HeightEdgesTest {
    private HeightEdgesTest() {
    }

    public static void main(String[] args) {
        Tests.run(HeightEdgesTest.class);
    }

    // ---- promise 11: high

    /** "TENTHS are 0 to 399." */
    static void theFirstAndTheLastTenth() {
        Asked.with("410").due("high(0)", 0).due("high(1)", 4).due("high(398)", 8).due("high(399)", 4)
            .bad("high(-1)", "high(400)", "high(MIN)", "high(MAX)");
    }

    /** "How far .. from 0 or from LENGTH, whichever is nearer." */
    static void whicheverIsNearer() {
        Asked.with("110").dueFrom(0, "high(#)", 0, 1, 2, 3, 4, 5, 4, 3, 2, 1, 0, 1);
        Asked.with("103").dueFrom(0, "high(#)", 0, 1, 1, 0, 1, 1, 0);
    }

    static void theLeastLength() {
        Asked.with("902").dueFrom(0, "high(#)", 0, 9, 0, 9).due("high(398)", 0).due("high(399)", 9);
    }

    static void theGreatestLength() {
        Asked.with("199").due("high(0)", 0).due("high(49)", 49).due("high(50)", 49).due("high(51)", 48)
            .due("high(98)", 1).due("high(99)", 0).due("high(100)", 1).due("high(399)", 3);
    }

    static void theLeastAndTheGreatestHeight() {
        Asked.with("010").due("high(5)", 0).due("does(5)", 0);
        Asked.with("999;999;999;999;999;999").due("high(49)", 2646).due("high(50)", 2646);
    }

    /** "That TENTH and BEGINS together, modulo LENGTH." */
    static void tenthAndBeginsWrapByTheLength() {
        Asked x = Asked.with("110");
        x.due("begins(0, 9)", 0).due("high(0)", 1).due("high(1)", 0).due("high(2)", 1);
        x.due("begins(0, 10)", 9).due("high(0)", 0).due("high(5)", 5);
        x.due("begins(0, 98)", 10).dueFrom(0, "high(#)", 2, 1, 0, 1).due("high(399)", 3);
        Asked y = Asked.with("199");
        y.due("begins(0, 98)", 0).dueFrom(0, "high(#)", 1, 0, 1, 2).due("high(399)", 2);
    }

    static void eachSwellHasItsOwnBegins() {
        Asked x = Asked.with("110;210");
        x.due("begins(1, 5)", 0).due("high(0)", 10).due("high(5)", 5).due("begins(0, 5)", 0).due("high(0)", 15);
    }

    /** "So many TENTHS (0 ..": none is cut. */
    static void aLeeOfNoTenthsCutsNothing() {
        Asked x = Asked.with("110").lee(5, 0).due("high(5)", 5).due("high(4)", 4).due("high(6)", 4);
        x.due("lee(0, 0)", 5).due("high(5)", 5);
    }

    static void aLeeOfOneTenthCutsJustThat() {
        Asked.with("110").lee(5, 1).dueFrom(4, "high(#)", 4, 2, 4);
    }

    static void theFirstAndTheLastTenthOfLee() {
        Asked.with("110").lee(4, 3).dueFrom(3, "high(#)", 3, 2, 2, 2, 3);
    }

    static void aLeeFromTheFirstTenthOn() {
        Asked x = Asked.with("110");
        x.due("begins(0, 5)", 0);
        x.lee(0, 1).due("high(0)", 2).due("high(1)", 4);
    }

    static void aLeeFromTheLastTenthOn() {
        Asked.with("210").lee(399, 399).due("high(398)", 4).due("high(399)", 1).due("high(0)", 0).due("high(1)", 2);
    }

    /** 399 TENTHS from 0 on are 0 to 398; from 1 on they are 1 to 399. */
    static void aLeeOfMostTenths() {
        Asked.with("210").lee(0, 399).due("high(1)", 1).due("high(398)", 2).due("high(399)", 2)
            .due("lee(0, 1)", 0).due("high(1)", 1).due("high(399)", 1);
        Asked x = Asked.with("210");
        x.due("begins(0, 1)", 0);
        x.lee(1, 399).due("high(0)", 2).due("high(1)", 2);
    }

    /** "Half as high (cut)." */
    static void halfAnOddHeightIsCut() {
        Asked.with("110").lee(0, 399).dueFrom(0, "high(#)", 0, 0, 1, 1, 2, 2, 2, 1, 1, 0);
    }

    /** "All SWELLS together": not each one. */
    static void allSwellsTogetherAreCut() {
        Asked.with("110;110").lee(0, 399).dueFrom(0, "high(#)", 0, 1, 2, 3, 4, 5);
        Asked.with("110;210").lee(0, 399).dueFrom(0, "high(#)", 0, 1, 3, 4, 6, 7);
    }

    // ---- promise 12: does

    /** "But the first and the last one": LEVEL, whatever stands beside them. */
    static void theFirstTenthIsLevel() {
        Asked x = Asked.with("110").due("does(0)", 0);
        for (int begins : new int[] {3, 5, 7}) {
            x.ask("begins(0, " + begins + ")");
            x.due("does(0)", 0);
        }
    }

    static void theLastTenthIsLevel() {
        Asked x = Asked.with("110").due("does(399)", 0);
        for (int begins : new int[] {1, 4, 6}) {
            x.ask("begins(0, " + begins + ")");
            x.due("does(399)", 0);
        }
    }

    static void theSecondTenthAndTheLastButOneAreNot() {
        Asked x = Asked.with("102").due("does(1)", 1).due("does(398)", 2);
        x.due("begins(0, 1)", 0).due("does(1)", 2).due("does(398)", 1);
        Asked.with("110").due("does(1)", 2).due("does(398)", 3);
    }

    static void tenthsBesideThemAreRefusedByDoes() {
        Asked.with("102").bad("does(-1)", "does(400)", "does(MIN)", "does(MAX)");
    }

    /** "If it stood no higher in the one ahead, and stands less high in the one behind." */
    static void itTopsWhereItStoodAsHighAhead() {
        Asked.with("103").dueFrom(0, "does(#)", 0, 0, 1, 2, 0, 1, 2);
    }

    static void itTopsWhereItStoodLessHighAhead() {
        Asked.with("110").dueFrom(4, "does(#)", 2, 1, 3, 3, 3, 3, 2);
    }

    /** "Else it FALLS, if it stands less high in the one behind": it stood higher in the one ahead. */
    static void itFallsWhereItStoodHigherAhead() {
        Asked.with("110").due("does(6)", 3).due("does(9)", 3);
    }

    /** As high in the one behind: LEVEL, whatever it did ahead. In LEE: 0 0 1 1 2 2 2 1 1 0. */
    static void itIsLevelWhereItStandsAsHighBehind() {
        Asked.with("110").lee(0, 399).dueFrom(1, "does(#)", 2, 0, 2, 0, 0, 1, 0, 1, 0, 0);
    }

    /** From below, as high, and from above: it RISES where it stands higher behind. */
    static void itRisesWhereItStandsHigherBehind() {
        Asked.with("110").due("does(1)", 2).due("does(10)", 2);
        Asked.with("110").lee(0, 399).due("does(1)", 2).due("does(3)", 2);
    }

    static void itIsLevelWithoutSwells() {
        Asked.fresh().dueFrom(0, "does(#)", 0, 0, 0).due("does(398)", 0).due("does(399)", 0);
    }

    /** Heights 0 4 8, and 6 8 10 in LEE from TENTH 3 on. */
    static void leeMakesTopsAtItsEdge() {
        Asked.with("410").lee(3, 399).dueFrom(1, "does(#)", 2, 1, 2, 2, 1, 3).due("crest(0, 1)", 2);
    }

    // ---- promise 13: leans

    /** "TENTH modulo LENGTH times 4 is less than LENGTH, or 3 times LENGTH or more." */
    static void theQuartersOfALengthThatFourDivides() {
        Asked.with("", "108").dueFrom(0, "leans(#)", 1, 1, 2, 2, 2, 2, 1, 1, 1, 1, 2);
        Asked.with("", "112").dueFrom(0, "leans(#)", 1, 1, 1, 2, 2, 2, 2, 2, 2, 1, 1, 1, 1, 1, 1, 2);
        Asked.with("", "104").dueFrom(0, "leans(#)", 1, 2, 2, 1, 1, 2, 2, 1);
    }

    static void theQuartersOfALengthThatFourDoesNotDivide() {
        Asked.with("", "103").dueFrom(0, "leans(#)", 1, 2, 2, 1, 2, 2);
        Asked.with("", "105").dueFrom(0, "leans(#)", 1, 1, 2, 2, 1, 1, 1, 2, 2, 1);
        Asked.with("", "106").dueFrom(0, "leans(#)", 1, 1, 2, 2, 2, 1, 1, 1);
        Asked.with("", "107").dueFrom(0, "leans(#)", 1, 1, 2, 2, 2, 2, 1, 1, 1);
        Asked.with("", "109").dueFrom(0, "leans(#)", 1, 1, 1, 2, 2, 2, 2, 1, 1, 1);
    }

    static void theQuartersOfTheLeastAndTheGreatestLength() {
        Asked.with("", "102").dueFrom(0, "leans(#)", 1, 2, 1, 2).due("leans(399)", 2);
        Asked.with("", "199").dueFrom(23, "leans(#)", 1, 1, 2, 2).dueFrom(73, "leans(#)", 2, 2, 1, 1)
            .dueFrom(98, "leans(#)", 1, 1, 1).dueFrom(122, "leans(#)", 1, 1, 2).due("leans(399)", 1);
    }

    /** "With no ROLL, or one of HEIGHT 0, it is UPRIGHT." */
    static void theShipIsUprightByARollOfHeight0() {
        Asked.with("", "008").dueFrom(0, "leans(#)", 0, 0, 0, 0);
        Asked.with("", "108").dueFrom(0, "leans(#)", 1, 1, 2, 2);
        Asked.with("", "908").dueFrom(0, "leans(#)", 1, 1, 2, 2);
    }

    static void theShipIsUprightWithoutRoll() {
        Asked.with("410").dueFrom(0, "leans(#)", 0, 0, 0, 0).due("leans(399)", 0);
    }

    static void theRollDoesNotBeginElsewhere() {
        Asked x = Asked.with("410", "108");
        x.due("begins(0, 3)", 0);
        x.lee(0, 399).dueFrom(0, "leans(#)", 1, 1, 2);
    }

    static void tenthsBesideThemAreRefusedByLeans() {
        Asked.with("", "108").bad("leans(-1)", "leans(400)", "leans(MIN)", "leans(MAX)");
        Asked.fresh().bad("leans(-1)", "leans(400)");
    }

    // ---- promise 14: crest

    /** "The k-th CREST (1 to 99)." By 102 the CUTTER tops in 1, 3 .. 397. */
    static void theFirstAndThe99thCrest() {
        Asked.with("102").due("crest(0, 1)", 1).due("crest(0, 99)", 197).due("crest(201, 99)", 397)
            .bad("crest(0, 0)", "crest(0, 100)", "crest(0, -1)", "crest(0, MIN)", "crest(0, MAX)", "crest(0, 257)");
    }

    /** "From one on": that one too. */
    static void aCrestInTheTenthItself() {
        Asked.with("410").due("crest(4, 1)", 5).due("crest(5, 1)", 5).due("crest(6, 1)", 15).due("crest(5, 2)", 15);
    }

    static void noSuchCrest() {
        Asked.with("102").due("crest(202, 98)", 397).due("crest(202, 99)", -1).due("crest(397, 1)", 397)
            .due("crest(397, 2)", -1).due("crest(398, 1)", -1).due("crest(399, 1)", -1);
        Asked.fresh().due("crest(0, 1)", -1).due("crest(0, 99)", -1);
    }

    static void noCrestInTheFirstAndTheLastTenth() {
        Asked x = Asked.with("102");
        x.due("begins(0, 1)", 0).due("crest(0, 1)", 2).due("crest(398, 1)", 398).due("crest(399, 1)", -1);
    }

    static void tenthsBesideThemAreRefusedByCrest() {
        Asked.with("102").bad("crest(-1, 1)", "crest(400, 1)", "crest(MIN, 1)", "crest(MAX, 1)", "crest(400, 0)");
    }

    // ---- promise 15: seventh

    /** "Of like ones the first." */
    static void ofLikeCrestsTheFirst() {
        Asked.with("410").due("seventh(0)", 1).due("seventh(5)", 1).due("seventh(6)", 1);
        Asked.with("410").lee(0, 10).due("seventh(0)", 2);
    }

    /** "Of the first seven CRESTS from it on." */
    static void theSeventhIsAskedAndTheEighthIsNot() {
        Asked.with("410").lee(0, 60).due("seventh(0)", 7).due("seventh(6)", 6);
        Asked.with("410").lee(0, 70).due("seventh(0)", 1).due("seventh(5)", 1).due("seventh(6)", 7);
    }

    /** Those behind the highest are lower, higher than one another, or like it: it stays the highest. */
    static void lowerCrestsBehindTheHighest() {
        Asked.with("410").lee(10, 389).due("high(5)", 20).due("high(15)", 10).due("seventh(0)", 1);
        Asked.with("410").lee(30, 30).due("seventh(0)", 1).due("seventh(26)", 4);
        // It tops in 10, 30, 50 .. and stands 50 40 50 50 40 50 50 40 there.
        Asked.with("420;130").dueFrom(1, "crest(10, #)", 10, 30, 50, 70, 90).due("high(30)", 40).due("high(50)", 50)
            .due("seventh(0)", 1).due("seventh(11)", 2).due("seventh(31)", 1).due("seventh(71)", 2);
    }

    /** "Fewer, if there are no more." */
    static void fewerThanSeven() {
        Asked.with("410").lee(330, 60).due("seventh(335)", 7).due("seventh(336)", 6).due("seventh(376)", 2)
            .due("seventh(385)", 2).due("seventh(386)", 1).due("seventh(395)", 1);
    }

    static void theLeastCrestThereIs() {
        Asked.with("102").due("high(1)", 1).due("seventh(0)", 1).due("seventh(397)", 1).due("seventh(398)", -1);
    }

    /** "NONE: there are none." */
    static void noCrestsForSeventh() {
        Asked.with("410").due("seventh(396)", -1).due("seventh(399)", -1);
        Asked.fresh().due("seventh(0)", -1).due("seventh(399)", -1);
    }

    static void tenthsBesideThemAreRefusedBySeventh() {
        Asked.with("410").bad("seventh(-1)", "seventh(400)", "seventh(MIN)", "seventh(MAX)");
    }

    // ---- promise 16: lull

    /** "LULL of so many TENTHS (1 to 100)." */
    static void aLullOfOneTenth() {
        Asked.with("410").due("lull(7, 1, 0)", 7).due("lull(7, 1, 1)", 0).due("lull(399, 1, 0)", 399)
            .due("lull(399, 1, 1)", 0);
    }

    static void aLullOf100Tenths() {
        Asked.with("410").due("lull(0, 100, 0)", 0).due("lull(0, 100, 1)", 20).due("lull(300, 100, 0)", 300)
            .due("lull(300, 100, 1)", 20);
    }

    static void soManyTenthsBesideThemAreRefused() {
        Asked.with("410").bad("lull(0, 0, 0)", "lull(0, 101, 0)", "lull(0, -1, 1)", "lull(0, MIN, 0)",
            "lull(0, MAX, 0)", "lull(399, 101, 0)", "lull(399, 0, 1)");
    }

    static void whatOfALullIs0Or1() {
        Asked.with("410").bad("lull(0, 5, -1)", "lull(0, 5, 2)", "lull(0, 5, MIN)", "lull(0, 5, MAX)",
            "lull(399, 2, 2)");
    }

    static void tenthsBesideThemAreRefusedByLull() {
        Asked.with("410").bad("lull(-1, 1, 0)", "lull(400, 1, 0)", "lull(MIN, 1, 0)", "lull(MAX, 1, 1)");
    }

    /** "NONE: there is none (all are TENTHS)." */
    static void noLullReachesBehindTheLastTenth() {
        Asked.with("410").due("lull(398, 2, 0)", 398).due("lull(398, 2, 1)", 4).due("lull(399, 2, 0)", -1)
            .due("lull(399, 2, 1)", -1).due("lull(301, 100, 0)", -1).due("lull(301, 100, 1)", -1);
    }

    /** "Of like ones the first." Heights 20 16 12 8 4 0 4 .. with BEGINS 5. */
    static void ofLikeLullsTheFirst() {
        Asked.with("410").due("lull(0, 5, 0)", 3).due("lull(3, 5, 0)", 3).due("lull(4, 5, 0)", 8)
            .due("lull(4, 5, 1)", 8).due("lull(0, 2, 0)", 0).due("lull(0, 2, 1)", 4);
    }

    /** In LEE from 300 on it stands 10 8 6 4 2 0 2 .., and 16 in TENTH 299. */
    static void theLastTenthsAreLookedAt() {
        Asked x = Asked.with("410");
        x.due("begins(0, 5)", 0);
        x.lee(300, 399).due("lull(0, 100, 0)", 300).due("lull(0, 100, 1)", 10).due("lull(300, 100, 0)", 300);
    }

    /** Only the first TENTHS are in LEE: 0 2 4 6 8 10 8 6 4 2, then 0 4. */
    static void theFirstTenthsAreLookedAt() {
        Asked.with("410").lee(0, 10).due("lull(0, 12, 0)", 0).due("lull(0, 12, 1)", 10).due("lull(1, 12, 0)", 1)
            .due("lull(1, 12, 1)", 10).due("lull(2, 12, 0)", 2).due("lull(3, 12, 0)", 3).due("lull(3, 12, 1)", 16);
    }

    static void aLullWithoutSwells() {
        Asked.fresh().due("lull(0, 100, 0)", 0).due("lull(0, 100, 1)", 0).due("lull(300, 100, 0)", 300);
    }
}
