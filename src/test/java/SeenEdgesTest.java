/** Promises 27 to 31: the edges of what was SEEN, of LEARN and of NIGHT. */
public final class SeenEdgesTest {
    private static final String SIX = "410;310;205;999;002;120";

    private SeenEdgesTest() {
    }

    public static void main(String[] args) {
        Tests.run(SeenEdgesTest.class);
    }

    // ---- promise 27: seen

    /** "SEEN, 8 at most." By 20 in TENTH 5, all of them as high as the swell is. */
    private static Asked fullOfSeen() {
        Asked x = Asked.with("410");
        for (int many = 1; many <= 8; many++) x.due("seen(5, 20)", many);
        return x;
    }

    static void eightAreSeenAndANinthIsNot() {
        fullOfSeen().refused("seen(5, 20)", -4).refused("seen(6, 16)", -4).due("count(5)", 8)
            .due("learn(0, NONE)", fullOfSeen().ask("learn(0, NONE)"));
    }

    /** "In a TENTH", "(0 to 3000)". */
    static void theLeastAndTheGreatestThatIsSeen() {
        Asked.fresh().due("seen(0, 0)", 1).due("seen(399, 0)", 2).due("seen(0, 3000)", 3).due("seen(399, 3000)", 4);
    }

    static void whatIsBesideThemIsRefused() {
        Asked x = Asked.with("410");
        x.due("seen(5, 20)", 1);
        x.bad("seen(-1, 0)", "seen(400, 0)", "seen(MIN, 0)", "seen(MAX, 0)", "seen(0, -1)", "seen(0, 3001)",
            "seen(0, MIN)", "seen(0, MAX)", "seen(400, 3001)").due("count(5)", 1);
    }

    // ---- promise 28: forget

    static void nothingSeenIsForgotten() {
        Asked.fresh().due("forget()", 0).due("forget()", 0).due("count(5)", 0);
    }

    static void allThatIsSeenIsForgotten() {
        fullOfSeen().due("forget()", 8).due("count(5)", 0).due("learn(0, NONE)", 98).due("forget()", 0)
            .due("seen(5, 19)", 1).due("learn(0, NONE)", 0);
    }

    static void eightAreSeenAgainOnceForgotten() {
        Asked x = fullOfSeen().due("forget()", 8);
        for (int many = 1; many <= 8; many++) x.due("seen(4, 16)", many);
        x.refused("seen(4, 16)", -4).due("forget()", 8);
    }

    // ---- promise 29: read

    static void theFirstAndTheLastSheetAreRead() {
        for (int s = 0; s <= 3; s++) Asked.fresh().sheet(s, 2, 5, 20).due("read(" + s + ")", 1).due("count(5)", 1);
        Asked.with("410").bad("read(-1)", "read(4)", "read(MIN)", "read(MAX)");
    }

    static void aLostSheetIsNotRead() {
        for (int s = 0; s <= 3; s++) fullOfSeen().refused("read(" + s + ")", -11);
        Asked.fresh().sheet(1, 2, 5, 20).due("lose(1)", 2).refused("read(1)", -11).due("count(5)", 0);
    }

    static void aSheetWithoutItemsIsRead() {
        Asked.fresh().sheet(0, 0).due("read(0)", 0).due("count(5)", 0).due("count(8)", 0);
    }

    /** "Two for each, as many as are whole." */
    static void whatIsNotWholeIsNotRead() {
        Asked.fresh().sheet(0, 2, 5).due("read(0)", 0).due("count(5)", 0);
        Asked.fresh().sheet(0, 2, 5, 20).due("read(0)", 1).due("count(5)", 1);
        Asked.fresh().sheet(0, 2, 5, 20, 6).due("read(0)", 1).due("count(5)", 1);
        Asked.fresh().sheet(0, 2, 5, 20, 6, 16).due("read(0)", 2).due("count(5)", 2);
    }

    /** "Up to the first that it refuses": a TENTH that is none, a height that is none. */
    static void readUpToTheFirstThatIsRefused() {
        int[][] wrong = {{-1, 0}, {400, 0}, {0, -1}, {0, 3001}, {Integer.MIN_VALUE, 0}, {0, Integer.MAX_VALUE}};
        for (int[] one : wrong) {
            Asked.with("410").sheet(0, 2, 5, 20, one[0], one[1], 4, 16).due("read(0)", 1).due("count(5)", 1)
                .due("count(8)", 0);
            Asked.with("410").sheet(0, 2, one[0], one[1], 4, 16).due("read(0)", 0).due("count(5)", 0);
        }
    }

    static void theLeastAndTheGreatestThatIsRead() {
        Asked.fresh().sheet(0, 2, 0, 0, 399, 3000, 0, 3000, 399, 0).due("read(0)", 4).due("count(5)", 4);
    }

    /** A SHEET of 48 items is 24 pairs, of which 8 are SEEN. */
    static void readUntilAllIsFull() {
        Asked.fresh().due("sheet(0, 0, 48)", 48).due("read(0)", 8).due("count(5)", 8).due("read(0)", 0)
            .due("count(5)", 8);
        fullOfSeen().sheet(0, 2, 6, 16).due("read(0)", 0).due("count(5)", 8).due("count(8)", 0);
    }

    /** "Behind those that there are." */
    static void readBehindThoseThatThereAre() {
        Asked x = Asked.with("410").sheet(0, 2, 5, 20, 4, 16);
        for (int many = 1; many <= 7; many++) x.due("seen(0, 0)", many);
        x.due("read(0)", 1).due("count(5)", 8).due("forget()", 8).due("seen(3, 12)", 1).due("read(0)", 2)
            .due("count(5)", 3);
    }

    /** Items of any FORM are numbers, and bytes and shorts have a sign. */
    static void aSheetOfAnyFormIsRead() {
        for (int form = 0; form <= 2; form++) {
            Asked.with("410").sheet(0, form, 5, 20, 127, 12).due("read(0)", 2).due("count(8)", 0);
        }
        Asked.fresh().sheet(0, 0, 5, 128).due("read(0)", 0);
        Asked.fresh().sheet(0, 1, 5, 128).due("read(0)", 1);
        Asked.fresh().sheet(0, 1, 5, 65535).due("read(0)", 0);
    }

    /** What is read is SEEN as it stands: TENTH first, height behind it. */
    static void whatIsReadIsLearntFrom() {
        Asked.with("199").sheet(0, 1, 99, 0, 50, 49).due("read(0)", 2).due("learn(0, NONE)", 1).due("learn(0, 0)", 99)
            .itemsDue(0, 1, 99, 0, 50, 49);
    }

    // ---- promise 30: learn

    /** "LENGTHS (2 to 99)." */
    static void theLeastAndTheGreatestLengthIsLearnt() {
        Asked x = Asked.with("105");
        x.due("seen(1, 1)", 1).due("seen(2, 0)", 2).due("learn(0, NONE)", 1).due("learn(0, 0)", 2).due("learn(0, 1)", -1);
        Asked y = Asked.with("105");
        y.due("seen(99, 0)", 1).due("seen(50, 49)", 2).due("learn(0, NONE)", 1).due("learn(0, 0)", 99)
            .due("learn(0, 1)", -1);
    }

    static void allLengthsWhileNothingIsSeen() {
        Asked.with("105").due("learn(0, NONE)", 98).due("learn(0, 0)", 2).due("learn(0, 1)", 3).due("learn(0, 96)", 98)
            .due("learn(0, 97)", 99);
    }

    static void noLengthAtAll() {
        Asked x = Asked.with("105");
        x.due("seen(1, 2)", 1).due("learn(0, NONE)", 0).due("learn(0, 0)", -1).due("learn(0, 97)", -1);
        Asked y = Asked.with("105");
        y.due("seen(7, 2)", 1).due("seen(7, 3)", 2).due("learn(0, NONE)", 0);
    }

    /** "NONE: not so many": 2 in TENTH 2 by LENGTHS 4 to 99. */
    static void theLastOneThatIsLearnt() {
        Asked x = Asked.with("105");
        x.due("seen(2, 2)", 1).due("learn(0, NONE)", 96).due("learn(0, 0)", 4).due("learn(0, 95)", 99)
            .due("learn(0, 96)", -1).due("learn(0, 97)", -1);
    }

    /** "The i-th (0 to 97)", and NONE asks how many. */
    static void theFirstAndTheLastThatCanBeAskedFor() {
        Asked.with("105").bad("learn(0, -2)", "learn(0, 98)", "learn(0, MIN)", "learn(0, MAX)");
        Asked x = Asked.with("105");
        x.due("seen(1, 2)", 1).bad("learn(0, -2)", "learn(0, 98)");
    }

    static void theFirstAndTheLastSwellThatLearns() {
        Asked.with(SIX).due("learn(0, NONE)", 98).due("learn(5, NONE)", 98).due("learn(5, 97)", 99)
            .bad("learn(-1, NONE)", "learn(6, NONE)", "learn(MIN, 0)", "learn(MAX, 0)", "learn(6, 98)");
        Asked.with("410").due("learn(0, 0)", 2).bad("learn(1, 0)", "learn(1, NONE)");
        Asked.fresh().bad("learn(0, NONE)", "learn(0, 0)");
    }

    /** "All that was SEEN comes out so": the first of eight, and the last one. */
    static void theFirstAndTheLastSeenCount() {
        Asked x = Asked.with("105");
        x.due("seen(1, 2)", 1);
        for (int many = 2; many <= 8; many++) x.due("seen(1, 1)", many);
        x.due("learn(0, NONE)", 0);
        Asked y = Asked.with("105");
        for (int many = 1; many <= 7; many++) y.due("seen(1, 1)", many);
        y.due("learn(0, NONE)", 98).due("seen(1, 2)", 8).due("learn(0, NONE)", 0);
    }

    /** By LENGTHS that divide 10 evenly the first TENTH is as low: 2 5 10. */
    static void itLearnsByBegins() {
        Asked x = Asked.with("105");
        x.due("begins(0, 10)", 0).due("seen(0, 0)", 1).due("learn(0, NONE)", 3).due("learn(0, 0)", 2)
            .due("learn(0, 1)", 5).due("learn(0, 2)", 10).due("learn(0, 3)", -1);
    }

    /** 3 in TENTH 7 in LEE: 6 or 7, so LENGTHS 13 (6) and from 14 on (7). Out of it: 10. */
    static void itLearnsByLee() {
        Asked x = Asked.with("105").lee(7, 1);
        x.due("seen(7, 3)", 1).due("learn(0, NONE)", 87).due("learn(0, 0)", 13).due("learn(0, 1)", 14);
        Asked y = Asked.with("105").lee(8, 1);
        y.due("seen(7, 3)", 1).due("learn(0, NONE)", 1).due("learn(0, 0)", 10);
    }

    /** By the other one it stands 2 in TENTHS 1 and 99, so 1 is left: LENGTHS that divide 98 or 100. */
    static void itLearnsBesideTheOtherSwells() {
        Asked x = Asked.with("105;207");
        x.due("seen(1, 3)", 1).due("seen(99, 3)", 2).due("learn(0, NONE)", 11)
            .dueFrom(0, "learn(0, #)", 2, 4, 5, 7, 10, 14, 20, 25, 49, 50, 98, -1);
    }

    /** Where the TENTH is the first one, in LEE and out of it. */
    static void itLearnsInTheFirstTenth() {
        Asked x = Asked.with("105");
        x.due("begins(0, 2)", 0).due("seen(0, 2)", 1).due("learn(0, NONE)", 96).due("learn(0, 0)", 4);
        x.lee(0, 1).due("learn(0, NONE)", 0).due("forget()", 1).due("seen(0, 1)", 1).due("learn(0, 0)", 4);
    }

    static void aSwellOfHeight0LearnsAllOrNothing() {
        Asked x = Asked.with("005");
        x.due("seen(3, 0)", 1).due("learn(0, NONE)", 98).due("seen(3, 1)", 2).due("learn(0, NONE)", 0);
    }

    static void learningChangesNoLength() {
        Asked.with("105").due("learn(0, 97)", 99).due("swell(0, 1)", 5).due("high(2)", 2).due("high(5)", 0);
    }

    // ---- promise 31: night

    /** By 904 a STEP at the CREST is TOPPED, in the TENTH behind it LATE, in the next one EARLY. Without AIR. */
    private static Asked threeKindsOfStep(int topped, int late, int early) {
        return Asked.with("904").having(1, 1, 2, 30, 3, 99, 4, topped, 5, early, 6, late, 7, 16, 9, 0, 10, 1);
    }

    /** The first lot of 3 and the first lot of 16 of some SEEDS, and how they wrap. */
    static void lotsByTheLeastAndTheGreatestSeed() {
        String[] seeds = {"0", "1", "2", "7", "-1", "MAX", "MIN"};
        int[] kinds = {0, 2, 1, 0, 1, 2, 2};
        int[] lots = {12, 14, 1, 14, 9, 9, 12};
        for (int i = 0; i < seeds.length; i++) {
            String call = "night(" + seeds[i] + ", 1)";
            for (int kind = 0; kind <= 2; kind++) {
                int[] odds = {0, 0, 0};
                odds[kind] = 16;
                threeKindsOfStep(odds[0], odds[1], odds[2]).due(call, kinds[i] == kind ? 0 : 1);
                odds[kind] = lots[i];
                threeKindsOfStep(odds[0], odds[1], odds[2]).due(call, 1);
                odds[kind] = lots[i] + 1;
                threeKindsOfStep(odds[0], odds[1], odds[2]).due(call, kinds[i] == kind ? 0 : 1);
            }
        }
    }

    /** By SEED 0 the second lot is 54236 of 65536: 12 of 16 as a number from 0 on, less than 0 with a sign. */
    static void aLotIsANumberFrom0On() {
        threeKindsOfStep(1, 0, 0).due("night(0, 1)", 1);
        threeKindsOfStep(12, 0, 0).due("night(0, 1)", 1);
        threeKindsOfStep(13, 0, 0).due("night(0, 1)", 0);
    }

    /** "A LOT of 16 less than FALL": none is less than 0, each is less than 16. */
    static void theLeastAndTheGreatestOdds() {
        for (String seed : new String[] {"0", "1", "2", "-1", "MIN", "MAX", "12345"}) {
            threeKindsOfStep(0, 0, 0).due("night(" + seed + ", 20)", 20);
            threeKindsOfStep(16, 16, 16).due("night(" + seed + ", 20)", 0);
        }
    }

    /** "n (1 to 20) go up one behind the other." */
    static void theFewestAndTheMostGoUp() {
        threeKindsOfStep(0, 0, 0).due("night(1, 1)", 1).due("night(1, 2)", 2).due("night(1, 19)", 19)
            .due("night(1, 20)", 20).bad("night(1, 0)", "night(1, 21)", "night(1, -1)", "night(1, MIN)", "night(1, MAX)",
                "night(MIN, 0)", "night(MAX, 21)");
    }

    /** "With no CREST more." */
    static void noOneGoesWithoutACrest() {
        Asked.fresh().due("night(1, 1)", 0).due("night(1, 20)", 0);
        Asked.with("005").due("night(1, 20)", 0);
    }

    /** CRESTS 2, 101 .. 398: the one in the last TENTH but one is gone to, if the lot of 3 is 0. */
    private static Asked fiveCrests() {
        Asked x = Asked.with("199").having(0, 99, 1, 1, 3, 99, 4, 0, 5, 0, 6, 0, 7, 0, 9, 0, 10, 1);
        x.ask("begins(0, 48)");
        return x;
    }

    static void aNightToTheLastTenth() {
        fiveCrests().due("count(4)", 5).due("crest(300, 1)", 398).due("night(2, 4)", 4).due("night(2, 5)", 5)
            .due("night(2, 6)", 5).due("night(-1, 20)", 5);
    }

    /** By a lot of 1 the last STEP is in TENTH 399, and one is CAUGHT; by 2 it is behind it. */
    static void aStepInTheLastTenthAndBehindIt() {
        fiveCrests().due("night(0, 4)", 4).due("night(0, 5)", 4).due("night(0, 20)", 4);
        fiveCrests().due("night(1, 4)", 4).due("night(1, 5)", 4).due("night(1, 20)", 4);
    }

    /** "The next CREST from the TENTH on in which the one ahead ended": that TENTH, too. */
    static void whoFallsAtTheCrestLeavesItToTheNext() {
        // By SEED 0: lots 0 of 3, 12 of 16: falls at CREST 50. Lots 0, 5: falls there. Lots 0, 15: gets up.
        Asked x = Asked.with("499").having(0, 200, 1, 12, 3, 99, 4, 13, 5, 0, 6, 0, 7, 0, 8, 0, 9, 0, 10, 9);
        x.due("crest(0, 1)", 50).due("night(0, 1)", 0).due("night(0, 2)", 0).due("night(0, 3)", 1);
        x.due("crest(51, 1)", 149);
    }

    /** A STEP at a CREST gets up, any other one falls; in TENTH 3 by 1 of 3 the CREST of TENTH 2 is gone. */
    static void whoFallsBehindTheCrestLeavesTheNextOne() {
        Asked x = fiveCrests().having(5, 16, 6, 16, 7, 16);
        int[] bySeed2 = {0, 0, 1, 2, 3, 3};
        int[] bySeed4 = {0, 0, 0, 0, 0, 0};
        int[] bySeed8 = {0, 0, 0, 1, 2, 2};
        for (int n = 1; n <= 6; n++) {
            x.due("night(2, " + n + ")", bySeed2[n - 1]).due("night(4, " + n + ")", bySeed4[n - 1])
                .due("night(8, " + n + ")", bySeed8[n - 1]);
        }
    }

    static void whoGetsUpEndsInTheTenthOfTheLastRung() {
        // 12 RUNGS of 9 TENTHS each: from CREST 5 on one ends in 113 or behind, 223 or behind, 333 or behind.
        Asked.with("410").having(1, 12, 3, 99, 4, 0, 5, 0, 6, 0, 7, 0, 9, 0, 10, 9).due("night(5, 1)", 1)
            .due("night(5, 2)", 2).due("night(5, 3)", 3).due("night(5, 4)", 3).due("night(5, 20)", 3);
    }

    /** By SEED 2: a lot of 3 is 1, STEP in TENTH 6; then lots of 16 are 1, 15, 2: FALL, two BANGS. */
    private static Asked twoBangs(int late, int banged) {
        return Asked.with("410", "110").having(1, 2, 3, 99, 4, 0, 5, 0, 6, late, 7, 0, 8, banged, 9, 0, 10, 1);
    }

    static void aLotLessThanFallAndALotAsGreat() {
        twoBangs(1, 0).due("bangs(6)", 2).due("night(2, 1)", 1);
        twoBangs(2, 0).due("night(2, 1)", 0);
    }

    static void aLotLessThanBangedAndALotAsGreat() {
        twoBangs(0, 0).due("night(2, 1)", 1);
        twoBangs(0, 2).due("night(2, 1)", 1);
        twoBangs(0, 3).due("night(2, 1)", 0);
        twoBangs(0, 16).due("night(2, 1)", 0).due("night(2, 20)", 0);
    }

    /** One BANG: by SEED 2 its lot of 16 is 15 (43007 of 65536), by SEED 37 it is 0 (14640). */
    static void theLeastAndTheGreatestLotForABang() {
        twoBangs(0, 15).having(1, 1).due("bangs(6)", 1).due("night(2, 1)", 1).due("night(37, 1)", 0);
        twoBangs(0, 16).having(1, 1).due("night(2, 1)", 0).due("night(37, 1)", 0);
        twoBangs(0, 1).having(1, 1).due("night(2, 1)", 1).due("night(37, 1)", 0);
        twoBangs(0, 0).having(1, 1).due("night(2, 1)", 1).due("night(37, 1)", 1);
    }

    /**
     * "CAUGHT, it falls, too, behind these LOTS." By SEED 12 lots 0 of 3 (STEP in TENTH 5), 11 of 16,
     * one for the BANG ahead of the RUNG at which it is CAUGHT; then 1 of 3 (TENTH 6), 9 of 16.
     */
    static void whoIsCaughtFallsBehindTheLots() {
        Asked x = Asked.with("410", "130").having(0, 16, 1, 2, 2, 1, 3, 99, 4, 0, 5, 0, 6, 9, 7, 0, 8, 0, 9, 0, 10, 5);
        x.due("climb(5)", -1).due("bangs(5)", 1).due("climb(6)", 16).due("night(12, 1)", 0).due("night(12, 2)", 1);
        x.due("set(6, 10)", 9).due("night(12, 2)", 0);
    }

    /** A SEED is a call's own. */
    static void aNightLeavesNoSeed() {
        Asked x = Asked.with("410", "312");
        long night = x.ask("night(77, 20)");
        long digest = x.ask("digest()");
        x.due("night(77, 20)", night).due("night(3, 20)", x.twin().ask("night(3, 20)")).due("digest()", digest);
    }
}
