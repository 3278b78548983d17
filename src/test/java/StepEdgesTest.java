/**
 * Promises 17 to 26: the edges of STEPS, of the CLIMB, of SAFE and what rests on it, of DOWN, SAVES
 * and LADDER. The settings' numbers: FOOT 0, RUNGS 1, SPACE 2, ARM 3, TOPPED 4, EARLY 5, LATE 6,
 * STILL 7, BANGED 8, WET 9, PACE 10, LAG 11.
 */
public final class StepEdgesTest {
    private StepEdgesTest() {
    }

    public static void main(String[] args) {
        Tests.run(StepEdgesTest.class);
    }

    /** Each call is refused in a TENTH beside the first and the last one; # stands for it. */
    private static void tenthsRefused(String call) {
        Asked x = Asked.with("410", "312");
        for (String tenth : new String[] {"-1", "400", "MIN", "MAX"}) x.bad(call.replace("#", tenth));
    }

    // ---- promise 17: step

    static void tenthsBesideThemAreRefused() {
        tenthsRefused("step(#)");
        tenthsRefused("fall(#)");
        tenthsRefused("climb(#)");
        tenthsRefused("bangs(#)");
        tenthsRefused("best(#, 1)");
        tenthsRefused("call(#, 1)");
        tenthsRefused("down(#, 1, 0)");
        tenthsRefused("ladder(#, 1)");
    }

    /** "AIR, if FOOT is higher than the CUTTER by more than ARM": it stands 16 in TENTH 4. */
    static void justArmIsNotAir() {
        Asked.with("410").having(0, 21, 3, 5).due("step(4)", 2);
        Asked.with("410").having(0, 22, 3, 5).due("step(4)", 4);
        Asked.with("410").having(0, 22, 3, 6).due("step(4)", 2);
    }

    static void theLeastArm() {
        Asked.with("410").having(0, 16, 3, 0).due("step(4)", 2).due("step(3)", 4);
        Asked.with("410").having(0, 17, 3, 0).due("step(4)", 4);
    }

    static void theGreatestArm() {
        Asked.with("410").having(0, 99, 3, 99).due("step(0)", 0).due("step(1)", 2);
        Asked.with("410").having(0, 100, 3, 99).due("step(0)", 4).due("step(1)", 2);
        Asked.with("410").having(0, 999, 3, 99).due("step(5)", 4);
    }

    static void theLeastFootIsNeverInTheAir() {
        Asked.with("410").having(0, 0, 3, 0).due("step(0)", 0).due("step(5)", 1).due("step(6)", 3).due("step(10)", 2);
    }

    static void aFootBelowTheCutterIsNotInTheAir() {
        Asked.with("999").having(0, 1, 3, 0).due("step(49)", 0).due("step(50)", 1).due("step(40)", 2).due("step(60)", 3);
    }

    static void theFirstAndTheLastStepAreStill() {
        Asked.with("410").having(0, 0).due("step(0)", 0).due("step(399)", 0).due("fall(0)", 2).due("fall(399)", 2);
    }

    // ---- promise 18: fall

    /** "16 together at most." */
    static void oddsAndWetTogether() {
        for (int[] one : new int[][] {{0, 0, 0}, {0, 1, 1}, {1, 0, 1}, {15, 0, 15}, {0, 15, 15}, {14, 1, 15}, {15, 1, 16},
            {16, 0, 16}, {0, 16, 16}, {16, 1, 16}, {15, 2, 16}, {16, 16, 16}}) {
            Asked.with("410").having(0, 0, 4, one[0], 9, one[1]).due("fall(5)", one[2]);
            Asked.with("410").having(0, 0, 5, one[0], 9, one[1]).due("fall(4)", one[2]);
            Asked.with("410").having(0, 0, 6, one[0], 9, one[1]).due("fall(6)", one[2]);
            Asked.with("410").having(0, 0, 7, one[0], 9, one[1]).due("fall(0)", one[2]);
        }
    }

    /** "Of AIR all sixteen." */
    static void ofAirAllSixteen() {
        Asked.with("410").having(0, 999, 4, 0, 5, 0, 6, 0, 7, 0, 9, 0).dueFrom(0, "fall(#)", 16, 16, 16, 16, 16, 16, 16);
        Asked.with("410").having(0, 999, 9, 16).due("fall(5)", 16);
    }

    // ---- promise 19: climb

    /** "CAUGHT, if that is behind TENTH 399." */
    static void oneComesToTheLastRungInTheLastTenth() {
        Asked.fresh().due("climb(381)", 399).due("climb(382)", -1);
        Asked.fresh().having(1, 1, 10, 1).due("climb(398)", 399).due("climb(399)", -1);
        Asked.fresh().having(1, 12, 10, 9).due("climb(291)", 399).due("climb(292)", -1);
    }

    /** "RUNGS (1 to 12)", "PACE (1 to 9)". */
    static void theFewestAndTheMostRungs() {
        Asked.fresh().having(1, 1, 10, 1).due("climb(0)", 1);
        Asked.fresh().having(1, 12, 10, 1).due("climb(0)", 12);
        Asked.fresh().having(1, 1, 10, 9).due("climb(0)", 9);
        Asked.fresh().having(1, 12, 10, 9).due("climb(0)", 108);
    }

    /** ROLL 108 leans OUT in 0 1, IN in 2 to 5, OUT in 6 7. */
    static void hungOutOneComesInTheNextTenthThatIsNotOut() {
        Asked.with("", "108").having(1, 1, 10, 1).dueFrom(0, "climb(#)", 2, 2, 3, 4, 5, 10, 10, 10, 10, 10, 11);
    }

    static void inRung0OneIsNotHungOut() {
        Asked.with("", "108").having(1, 1, 10, 2).due("climb(0)", 2).due("climb(6)", 10);
    }

    /** ROLL 109 leans OUT in 396 to 398 and IN in 399; ROLL 108 OUT in 398 and 399. */
    static void hungOutToTheLastTenthAndBehindIt() {
        Asked.with("", "109").having(1, 1, 10, 1).due("climb(395)", 399).due("bangs(395)", 1);
        Asked.with("", "109").having(1, 2, 10, 1).due("climb(395)", -1).due("bangs(395)", 1);
        Asked.with("", "108").having(1, 1, 10, 1).due("climb(396)", 397).due("climb(397)", -1).due("bangs(397)", 0);
    }

    /** "Or the CUTTER stands higher than FOOT and k times SPACE": it stands 4, 8 .. 20 in TENTHS 1 to 5. */
    static void asHighAsTheRungItDoesNotCatch() {
        Asked.with("410").having(0, 0, 1, 5, 2, 4, 10, 1).due("climb(0)", 5);
        Asked.with("410").having(0, 0, 1, 5, 2, 3, 10, 1).due("climb(0)", -1);
        Asked.with("410").having(0, 5, 1, 5, 2, 3, 10, 1).due("climb(0)", 5);
        Asked.with("410").having(0, 4, 1, 5, 2, 3, 10, 1).due("climb(0)", -1);
    }

    static void theLeastAndTheGreatestSpace() {
        Asked.with("410").having(0, 3, 1, 1, 2, 1, 10, 1).due("climb(0)", 1);
        Asked.with("410").having(0, 2, 1, 1, 2, 1, 10, 1).due("climb(0)", -1);
        Asked.with("999;199").having(0, 0, 1, 12, 2, 30, 10, 3).due("climb(0)", 36);
        Asked.with("999;199").having(0, 0, 1, 12, 2, 29, 10, 3).due("climb(0)", -1);
        Asked.with("999;299").having(0, 0, 1, 12, 2, 30, 10, 3).due("climb(0)", -1);
    }

    /** It stands 20 in TENTH 5, and 0 in TENTH 10, where the one RUNG is. */
    static void whereOneStepsAndBetweenRungsItDoesNotCatch() {
        Asked.with("410").having(0, 0, 1, 1, 2, 1, 10, 5).due("climb(5)", 10).due("climb(4)", -1);
        Asked.with("410").having(0, 0, 1, 1, 2, 1, 10, 9).due("climb(1)", 10);
    }

    static void atTheLastRungItCatches() {
        Asked.with("410").having(0, 0, 1, 2, 2, 1, 10, 5).due("climb(5)", -1);
        Asked.with("410").having(0, 0, 1, 1, 2, 1, 10, 5).due("climb(5)", 10);
    }

    /** It is hung out from TENTH 6 to TENTH 10, and it stands 16 in 6, 0 in 10. */
    static void itCatchesWhereOneComesNotWhereOneHangsOut() {
        Asked.with("410", "108").having(0, 0, 1, 1, 2, 1, 10, 1).due("climb(5)", 10).due("climb(0)", -1);
    }

    /** The one RUNG is in TENTH 5, at 10: without LEE the CUTTER stands 20 there, with it as high as the RUNG. */
    static void itCatchesByLee() {
        Asked x = Asked.with("410", "120").having(0, 9, 1, 1, 2, 1, 10, 5);
        x.due("climb(0)", -1).due("bangs(0)", 0).due("safe(0, 0)", 0);
        x.lee(5, 1).due("climb(0)", 5).due("bangs(0)", 1);
        x.lee(0, 5).due("climb(0)", -1).due("bangs(0)", 0);
        x.lee(0, 6).due("climb(0)", 5).due("bangs(0)", 1);
        x.lee(6, 99).due("climb(0)", -1);
    }

    // ---- promise 20: bangs

    /** ROLL 199 leans IN in 25 to 74 and 322 .. 371. */
    static void theFewestAndTheMostBangs() {
        Asked.with("", "199").having(1, 12, 10, 1).due("bangs(24)", 12).due("bangs(0)", 12).due("bangs(62)", 12)
            .due("bangs(63)", 12).due("climb(63)", 124);
        Asked.with("", "199").having(1, 1, 10, 1).due("bangs(24)", 1);
        Asked.with("", "099").having(1, 12, 10, 1).due("bangs(24)", 0);
        Asked.with("410").having(0, 99).due("bangs(24)", 0);
    }

    /** "Those ahead of the one at which one is CAUGHT, if one is." */
    static void bangsAheadOfTheOneAtWhichOneIsCaught() {
        Asked x = Asked.with("410", "199").having(0, 0, 2, 4, 10, 1).due("bangs(30)", 9).due("climb(30)", 39);
        x.having(2, 3).due("climb(30)", -1).due("bangs(30)", 0);
        x.having(0, 4).due("climb(30)", -1).due("bangs(30)", 4);
        x.having(0, 5).due("climb(30)", 39).due("bangs(30)", 9);
    }

    static void caughtAtTheLastRungOneWasBangedAheadOfIt() {
        Asked.with("410", "130").having(0, 0, 1, 2, 2, 1, 10, 5).due("climb(5)", -1).due("bangs(5)", 1);
    }

    static void caughtByTheLastTenthOneWasBangedAheadOfIt() {
        Asked.with("", "199").having(1, 12, 10, 1).due("climb(361)", -1).due("bangs(361)", 10).due("bangs(371)", 0)
            .due("bangs(370)", 1);
    }

    // ---- promise 21: safe

    private static void safeDue(Asked x, int tenth, long above, long below) {
        x.due("safe(" + tenth + ", 0)", above).due("safe(" + tenth + ", 1)", below);
    }

    /** "FRACTIONS are told in lowest terms (0 by 1)." */
    static void noChanceIs0By1() {
        safeDue(Asked.fresh(), 0, 0, 1);
        safeDue(Asked.fresh().having(0, 0), 382, 0, 1);
        safeDue(Asked.fresh().having(0, 0, 7, 16), 0, 0, 1);
        safeDue(Asked.fresh().having(0, 0, 7, 15), 0, 0, 1);
        safeDue(Asked.with("", "102").having(0, 0, 8, 16), 0, 0, 1);
    }

    static void aSureChanceIs1By1() {
        safeDue(Asked.fresh().having(0, 0, 7, 0, 9, 0), 0, 1, 1);
        safeDue(Asked.with("", "102").having(0, 0, 7, 0, 8, 0, 9, 0), 0, 1, 1);
    }

    static void lowestTerms() {
        int[][] terms = {{1, 1}, {15, 16}, {7, 8}, {13, 16}, {3, 4}, {11, 16}, {5, 8}, {9, 16}, {1, 2}, {7, 16}, {3, 8},
            {5, 16}, {1, 4}, {3, 16}, {1, 8}, {1, 16}, {0, 1}};
        for (int odds = 0; odds <= 16; odds++) {
            safeDue(Asked.fresh().having(0, 0, 7, odds, 9, 0), 0, terms[odds][0], terms[odds][1]);
            safeDue(Asked.with("", "102").having(0, 0, 1, 1, 7, 0, 8, odds, 9, 0), 0, terms[odds][0], terms[odds][1]);
        }
        safeDue(Asked.with("", "102").having(0, 0, 1, 2, 7, 2, 8, 4, 9, 0), 0, 63, 128);
    }

    /** 16 to the 13th is 4503599627370496, 15 to the 13th 1946195068359375. */
    static void theMostBangsAndTheLongestFraction() {
        safeDue(Asked.with("", "102").having(0, 0, 1, 12, 7, 1, 8, 1, 9, 0), 0, 1946195068359375L, 4503599627370496L);
        safeDue(Asked.with("", "102").having(0, 0, 1, 12, 7, 15, 8, 15, 9, 0), 0, 1, 4503599627370496L);
        safeDue(Asked.with("", "102").having(0, 0, 1, 12, 7, 0, 8, 15, 9, 0), 0, 1, 281474976710656L);
    }

    /** "BANGED sixteenths each" of BANGS alone: UPRIGHT there are none. */
    static void bangedWithoutBangs() {
        safeDue(Asked.fresh().having(0, 0, 7, 0, 8, 16, 9, 0), 0, 1, 1);
    }

    /** CAUGHT by the CUTTER or by the last TENTH, though the STEP and the BANGS are sure. */
    static void caughtOneIsNotSafe() {
        Asked x = Asked.with("410").having(0, 0, 2, 1, 5, 0, 7, 0, 9, 0);
        safeDue(x, 0, 0, 1);
        Asked y = Asked.fresh().having(0, 0, 7, 0, 9, 0);
        safeDue(y, 381, 1, 1);
        safeDue(y, 382, 0, 1);
        safeDue(y, 399, 0, 1);
    }

    /** "The least long and x more." */
    static void aRefusalOfSafeIsTheLeastLongAnd2More() {
        long refused = Long.MIN_VALUE + 2;
        Due.due("the least long and 2 more", refused, -9223372036854775806L);
        Asked x = Asked.with("410", "312");
        for (String no : new String[] {"-1, 0", "400, 0", "400, 1", "MIN, 0", "MAX, 1", "0, -1", "0, 2", "0, MIN",
            "0, MAX", "400, 2"}) {
            x.refused("safe(" + no + ")", refused);
        }
    }

    // ---- promise 22: best

    /** "Within so many TENTHS (1 to 100": 49 is STILL, 50 is TOPPED, those ahead of them EARLY. */
    static void bestWithinTheFewestTenths() {
        Asked.with("999").having(0, 430, 1, 1, 2, 30, 3, 99, 10, 9).due("best(48, 1)", 48).due("best(48, 2)", 49)
            .due("best(48, 3)", 50).due("best(49, 1)", 49).due("best(49, 2)", 50).due("best(50, 1)", 50);
    }

    /** LEE up to TENTH 98: there it stands 10 at most, then 4 0 4 8 12 16, and 20 in TENTH 105. */
    private static Asked cutUpTo98() {
        return Asked.with("410").having(1, 1, 2, 30).lee(0, 99);
    }

    static void bestWithinTheMostTenths() {
        cutUpTo98().due("step(103)", 4).due("step(104)", 2).due("step(105)", 1).due("best(4, 100)", 4)
            .due("best(5, 99)", 5).due("best(5, 100)", 104).due("best(6, 99)", 104).due("best(6, 100)", 105);
    }

    static void callWithinTheMostTenths() {
        cutUpTo98().due("call(4, 100)", 3).due("call(5, 99)", 4).due("call(5, 100)", 103).due("call(6, 100)", 104);
    }

    static void soManyTenthsBesideThemAreRefused() {
        Asked x = Asked.with("410", "312");
        for (String no : new String[] {"0", "101", "-1", "MIN", "MAX"}) {
            x.bad("best(0, " + no + ")", "call(0, " + no + ")", "down(0, " + no + ", 0)", "ladder(0, " + no + ")",
                "best(399, " + no + ")", "call(399, " + no + ")", "down(399, " + no + ", 1)", "ladder(399, " + no + ")");
        }
    }

    static void bestToTheLastTenth() {
        Asked.fresh().having(0, 0).due("best(399, 100)", 399).due("best(399, 1)", 399).due("best(381, 100)", 381)
            .due("best(382, 100)", 382);
        Asked.with("410").having(0, 20, 1, 1, 2, 30, 10, 1).due("best(390, 100)", 395).due("best(396, 100)", 396);
    }

    /** "From one on": TENTH 0 is STILL, by 15 of 16; behind it TENTH 5, TOPPED, is the best one, by 14 of 16. */
    static void aBetterStepAheadIsNotLookedAt() {
        Asked x = Asked.with("410").having(1, 1, 2, 30, 3, 99, 4, 1, 7, 0);
        safeDue(x, 0, 15, 16);
        safeDue(x, 4, 13, 16);
        safeDue(x, 5, 7, 8);
        x.due("best(0, 100)", 0).due("best(1, 100)", 5).due("best(4, 2)", 5).due("call(1, 100)", 4).due("call(4, 2)", 4);
    }

    /** "Of like ones the first"; of STEPS without a chance, too. */
    static void ofLikeStepsTheFirst() {
        Asked.with("410").due("best(0, 100)", 5).due("best(6, 100)", 15).due("best(0, 4)", 0).due("best(7, 5)", 7);
        Asked.fresh().due("best(7, 100)", 7);
    }

    /** The least chances there are: 15 and 16 by 16 to the 13th. */
    static void theLeastChancesDiffer() {
        Asked x = Asked.with("410", "102").having(1, 12, 2, 30, 5, 1, 6, 16, 7, 16, 8, 15, 9, 0);
        safeDue(x, 4, 15, 4503599627370496L);
        safeDue(x, 5, 1, 281474976710656L);
        x.due("best(0, 5)", 4).due("best(0, 6)", 5).due("best(0, 100)", 5);
    }

    // ---- promise 23: call

    /** "NONE: that would be ahead of TENTH 0." BEST is 5. */
    static void calledInTenth0AndAheadOfIt() {
        Asked.with("410").having(11, 5).due("call(0, 10)", 0);
        Asked.with("410").having(11, 6).due("call(0, 10)", -1);
        Asked.with("410").having(11, 9).due("call(0, 10)", -1).due("call(6, 10)", 6);
    }

    static void theLeastAndTheGreatestLag() {
        Asked.with("410").having(11, 0).due("call(0, 10)", 5).due("call(399, 1)", 399).due("call(0, 1)", 0);
        Asked.with("410").having(11, 9).due("call(391, 1)", 382).due("call(9, 1)", 0).due("call(8, 1)", -1);
    }

    static void calledAheadOfTheTenthFromWhichOn() {
        Asked.with("410").having(11, 9).due("call(15, 1)", 6).due("call(14, 5)", 6);
    }

    // ---- promise 24: down

    static void downWithinTheFewestTenths() {
        Asked.with("410").due("down(0, 1, 0)", 0).due("down(0, 1, 1)", 20).due("down(4, 1, 0)", 4)
            .due("down(4, 1, 1)", 4).due("down(4, 2, 0)", 5).due("down(4, 2, 1)", 0);
    }

    static void downWithinTheMostTenths() {
        cutUpTo98().due("down(5, 98, 0)", 5).due("down(5, 98, 1)", 10).due("down(5, 99, 0)", 103)
            .due("down(5, 99, 1)", 8).due("down(5, 100, 0)", 104).due("down(5, 100, 1)", 4)
            .due("down(6, 100, 0)", 105).due("down(6, 100, 1)", 0).due("down(6, 99, 0)", 104);
    }

    static void downToTheLastTenth() {
        Asked.with("410").due("down(399, 1, 0)", 399).due("down(399, 100, 0)", 399).due("down(399, 100, 1)", 16)
            .due("down(396, 100, 0)", 396).due("down(390, 100, 0)", 395).due("down(390, 100, 1)", 0);
        Asked.with("410").having(0, 0).due("down(395, 100, 0)", 399).due("down(395, 100, 1)", 4);
    }

    /** "Of like ones the first", "above it or below": 16 in TENTH 4, 20 in TENTH 5, FOOT 18. */
    static void aboveFootAndBelowIt() {
        Asked.with("410").having(0, 18).due("down(0, 100, 0)", 4).due("down(0, 100, 1)", 2).due("down(5, 100, 0)", 5)
            .due("down(5, 100, 1)", 2).due("down(6, 100, 0)", 6);
        Asked.with("410").having(0, 17).due("down(0, 100, 0)", 4).due("down(0, 100, 1)", 1).due("down(5, 1, 1)", 3);
    }

    static void theLeastAndTheGreatestFootOfDown() {
        Asked.with("410").having(0, 0).due("down(0, 100, 0)", 0).due("down(0, 100, 1)", 0).due("down(1, 5, 1)", 4);
        Asked.with("410").having(0, 999).due("down(0, 100, 0)", 5).due("down(0, 100, 1)", 979);
        Asked.with("999;999;999;999;999;999").having(0, 0).due("down(49, 2, 0)", 49).due("down(49, 2, 1)", 2646);
    }

    static void whatOfDownIs0Or1() {
        Asked.with("410").bad("down(0, 1, -1)", "down(0, 1, 2)", "down(0, 1, MIN)", "down(0, 1, MAX)", "down(0, 0, 2)");
    }

    // ---- promise 25: saves

    /** "NONE: there are no such": as LEE is of no TENTHS. */
    static void aLeeOfNoTenthsSavesNone() {
        Asked.with("410").due("saves()", -1);
        Asked.with("410").lee(5, 0).due("saves()", -1);
        Asked.with("410").lee(399, 0).due("saves()", -1);
        Asked.fresh().due("saves()", -1);
    }

    static void aLeeOfOneTenthSaves() {
        Asked.with("110").lee(0, 1).due("saves()", 0);
        Asked.with("110").lee(5, 1).due("saves()", 3);
        Asked.with("110").lee(4, 1).due("saves()", 2);
        Asked.with("110").lee(399, 1).due("saves()", 1);
        Asked.fresh().lee(0, 1).due("saves()", 0);
    }

    /** Just the TENTHS of LEE, its first and its last one too. */
    static void theFirstAndTheLastTenthOfLeeAreLookedAt() {
        Asked.with("410").lee(5, 3).due("saves()", 10);
        Asked.with("410").lee(3, 3).due("saves()", 10);
        Asked.with("410").lee(6, 3).due("saves()", 8);
        Asked.with("410").lee(2, 3).due("saves()", 8);
    }

    /** With BEGINS 5 it stands highest in TENTH 0. */
    static void aLeeFromTheFirstTenthOnSaves() {
        Asked x = Asked.with("410").lee(0, 1);
        x.due("begins(0, 5)", 0).due("saves()", 10).due("lee(1, 3)", 1).due("saves()", 10).due("begins(0, 4)", 5)
            .due("saves()", 10).due("begins(0, 6)", 4).due("saves()", 8);
    }

    /** "To 399." */
    static void aLeeBehindTheLastTenthSavesToThat() {
        Asked.with("410").lee(399, 399).due("saves()", 2);
        Asked.with("410").lee(396, 399).due("saves()", 8);
        Asked.with("410").lee(395, 399).due("saves()", 10);
        Asked.with("999;999;999;999;999;999").lee(0, 399).due("saves()", 1323);
    }

    // ---- promise 26: ladder

    /** "So many (1 to 100)": it stands 1 or more, but 0 in TENTHS 0, 198 and 396. */
    static void aLadderByTheFewestAndTheMostTenths() {
        Asked.with("199;102").having(3, 0).due("ladder(0, 1)", 0).due("ladder(49, 1)", 50).due("ladder(49, 2)", 49)
            .due("ladder(99, 99)", 1).due("ladder(99, 100)", 0).due("ladder(98, 100)", 1).due("ladder(100, 98)", 1)
            .due("ladder(100, 99)", 0).due("ladder(198, 1)", 0).due("ladder(199, 100)", 1);
    }

    static void aLadderToTheLastTenth() {
        Asked.with("410").having(3, 0).due("ladder(399, 1)", 4).due("ladder(399, 100)", 4).due("ladder(395, 100)", 4)
            .due("ladder(396, 1)", 16);
    }

    /** In the AIR by more than ARM: FOOT may be higher than the lowest by just that. */
    static void aLadderHigherByJustArm() {
        Asked.with("410").having(3, 8).due("ladder(0, 6)", 8);
        Asked.with("410").having(3, 7).due("ladder(0, 6)", 4);
        Asked.with("410").having(3, 99).due("ladder(0, 6)", 20);
        Asked.with("410").having(3, 20).due("ladder(0, 6)", 20);
        Asked.with("410").having(3, 19).due("ladder(0, 6)", 16);
    }

    /** In LEE the CUTTER stands 10 in TENTH 5, not 20, and 16 in TENTHS 4 and 6. */
    static void aLadderByLee() {
        Asked.with("410").due("ladder(5, 1)", 20).due("ladder(5, 2)", 20).due("ladder(4, 3)", 20);
        Asked.with("410").lee(5, 1).due("ladder(5, 1)", 10).due("ladder(5, 2)", 10).due("ladder(4, 3)", 10)
            .due("ladder(4, 1)", 16).due("ladder(6, 1)", 16);
        Asked.with("410").lee(5, 1).having(3, 6).due("ladder(5, 2)", 16).due("ladder(4, 3)", 16);
    }

    /** "Of like ones the least." */
    static void ofLikeFeetTheLeast() {
        Asked.fresh().due("ladder(0, 100)", 0);
        Asked.with("410").having(3, 3).due("ladder(0, 6)", 0).due("ladder(1, 5)", 4).due("ladder(5, 1)", 20);
    }

    /** "FEET 0 to 999": a height of 999 is one, that of 1000 is none, whatever ARM is. */
    static void theGreatestFoot() {
        Asked x = Asked.with("999;999;199;199;199").having(3, 0);
        x.due("high(47)", 987).due("high(48)", 1008).due("ladder(47, 1)", 987).due("ladder(48, 1)", 0)
            .due("ladder(47, 2)", 987);
        Asked y = Asked.with("999;999;999;137").having(3, 0);
        y.due("high(37)", 999).due("ladder(37, 1)", 999);
        Asked z = Asked.with("999;999;999;136").having(3, 99);
        z.due("high(37)", 1000).due("ladder(37, 1)", 0);
        Asked w = Asked.with("999;999;999;999;999;999").having(3, 99);
        w.due("high(18)", 972).due("high(19)", 1026).due("ladder(18, 2)", 972).due("ladder(19, 2)", 0);
    }
}
