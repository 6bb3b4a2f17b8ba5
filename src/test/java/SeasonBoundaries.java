/** Boundary cases of promises 12 to 20: behind so many seasons. */
final class SeasonBoundaries {
    private static final int[] FAR = {-1, 25, Integer.MIN_VALUE, Integer.MAX_VALUE};

    private SeasonBoundaries() {
    }

    /** A single quarrel p of a and b. */
    static GraftQuarrel one(int winter, int bears, int vigour, String... more) {
        String[] lines = {"quarrel p land of a b vigour " + vigour};
        return Checks.six(winter, bears, GraftsTest.with(lines, more));
    }

    /** One with p grafted on q: half of 8 on 2. */
    static GraftQuarrel grafted(int winter, int bears, String... more) {
        String[] lines = {"quarrel p land of a b vigour 8", "quarrel q word of c d vigour 2",
            "law land on word odds 1"};
        GraftQuarrel x = Checks.six(winter, bears, GraftsTest.with(lines, more));
        x.graft(0, 1);
        return x;
    }

    // ---- promise 12

    static void promise12NumbersOfSeasons(Checks c) {
        GraftQuarrel x = one(0, 4, 3);
        for (int n : FAR) {
            c.refused(x, "vigour(0, " + n + ")", x.vigour(0, n), -1, 2);
        }
        c.goes(x, "vigour(0, 0)", x.vigour(0, 0), 3);
        c.goes(x, "vigour(0, 24)", x.vigour(0, 24), 3);
    }

    static void promise12NoSuchQuarrelAheadOfTheNumber(Checks c) {
        GraftQuarrel x = one(0, 4, 3);
        c.refused(x, "vigour(1, 0)", x.vigour(1, 0), -1, 1);
        c.refused(x, "vigour(-1, 0)", x.vigour(-1, 0), -1, 1);
        c.refused(x, "vigour(1, 25)", x.vigour(1, 25), -1, 1);
        GraftQuarrel y = new GraftQuarrel();
        c.refused(y, "vigour(0, 25) without a VALLEY", y.vigour(0, 25), -1, 1);
    }

    static void promise12OfOneThatDoesNotStand(Checks c) {
        GraftQuarrel x = grafted(0, 30, "deed p season 0 feeds 9");
        c.goes(x, "vigour(0, 0)", x.vigour(0, 0), 0);
        c.goes(x, "vigour(0, 1)", x.vigour(0, 1), 0);
        c.refused(x, "vigour(0, 25)", x.vigour(0, 25), -1, 2);
    }

    static void promise12DeedsOfGraftedOnesFeedTheStock(Checks c) {
        GraftQuarrel x = grafted(0, 30, "deed p season 0 feeds 9", "deed q season 0 feeds 1");
        c.goes(x, "vigour(1, 1)", x.vigour(1, 1), 16);
    }

    static void promise12DeedsOfTheFirstAndTheLastSeason(Checks c) {
        GraftQuarrel x = one(0, 30, 1, "deed p season 0 feeds 2", "deed p season 23 feeds 4");
        c.goes(x, "behind none", x.vigour(0, 0), 1);
        c.goes(x, "behind one", x.vigour(0, 1), 3);
        c.goes(x, "behind twenty-three", x.vigour(0, 23), 3);
        c.goes(x, "behind twenty-four", x.vigour(0, 24), 7);
    }

    static void promise12DeedsOfOneSeasonAddUp(Checks c) {
        GraftQuarrel x = one(0, 30, 0, "deed p season 1 feeds 9", "deed p season 1 feeds 9", "deed p season 1 feeds 1");
        c.goes(x, "vigour(0, 2)", x.vigour(0, 2), 19);
    }

    static void promise12DeedsDoNotComeRound(Checks c) {
        GraftQuarrel x = one(0, 30, 0, "deed p season 0 feeds 2", "deed p season 4 feeds 1");
        Checks.pass(x, 5);
        c.goes(x, "behind season 23", x.vigour(0, 19), 3);
        c.goes(x, "behind season 24", x.vigour(0, 20), 3);
        c.goes(x, "behind season 28", x.vigour(0, 24), 3);
    }

    static void promise12WinterIsEachFourth(Checks c) {
        GraftQuarrel x = one(1, 30, 20);
        int[] due = {20, 20, 20, 20, 19, 19, 19, 19, 18};
        for (int n = 0; n < due.length; n++) {
            c.goes(x, "vigour(0, " + n + ")", x.vigour(0, n), due[n]);
        }
        c.goes(x, "behind six winters", x.vigour(0, 24), 14);
    }

    static void promise12WinterLeavesNoneAtLeast(Checks c) {
        int[] due = {0, 0, 1};
        for (int i = 0; i < 3; i++) {
            GraftQuarrel x = one(9, 30, 8 + i);
            c.goes(x, "of " + (8 + i), x.vigour(0, 4), due[i]);
            c.goes(x, "behind another one", x.vigour(0, 8), 0);
        }
    }

    static void promise12WinterNotOfPottedOnes(Checks c) {
        GraftQuarrel x = one(9, 30, 9, "pot p");
        c.goes(x, "vigour(0, 24)", x.vigour(0, 24), 9);
    }

    static void promise12WinterComesBehindDeeds(Checks c) {
        GraftQuarrel x = one(3, 30, 1, "deed p season 3 feeds 2");
        c.goes(x, "vigour(0, 4)", x.vigour(0, 4), 0);
        GraftQuarrel y = one(3, 30, 1, "deed p season 3 feeds 3");
        c.goes(y, "vigour(0, 4)", y.vigour(0, 4), 1);
    }

    static void promise12NoWinterAtAll(Checks c) {
        GraftQuarrel x = one(0, 30, 29);
        c.goes(x, "vigour(0, 24)", x.vigour(0, 24), 29);
    }

    static void promise12BearsLessByAFruit(Checks c) {
        GraftQuarrel x = one(0, 10, 10);
        c.goes(x, "just bears", x.vigour(0, 1), 0);
        GraftQuarrel y = one(0, 10, 9);
        c.goes(y, "one less", y.vigour(0, 1), 9);
        GraftQuarrel z = one(0, 10, 11);
        c.goes(z, "one more", z.vigour(0, 1), 1);
    }

    static void promise12OneFruitASeason(Checks c) {
        GraftQuarrel x = one(0, 10, 30);
        int[] due = {30, 20, 10, 0, 0};
        for (int n = 0; n < due.length; n++) {
            c.goes(x, "vigour(0, " + n + ")", x.vigour(0, n), due[n]);
        }
    }

    static void promise12NothingGoesByWhenAsked(Checks c) {
        GraftQuarrel x = one(1, 10, 30);
        x.vigour(0, 24);
        c.is("NOW", x.size(8), 0);
        c.is("vigour", x.quarrel(0, 1), 30);
        c.is("fruits", x.quarrel(0, 5), 0);
        c.is("acts", x.size(10), 0);
    }

    // ---- promise 13

    static void promise13NumbersOfSeasons(Checks c) {
        GraftQuarrel x = one(0, 4, 4);
        for (int n : FAR) {
            c.refused(x, "fruits(0, " + n + ")", x.fruits(0, n), -1, 2);
        }
        c.goes(x, "fruits(0, 0)", x.fruits(0, 0), 0);
        c.goes(x, "fruits(0, 1)", x.fruits(0, 1), 1);
        c.goes(x, "fruits(0, 24)", x.fruits(0, 24), 1);
    }

    static void promise13NoSuchQuarrelAheadOfTheNumber(Checks c) {
        GraftQuarrel x = one(0, 4, 4);
        c.refused(x, "fruits(1, 1)", x.fruits(1, 1), -1, 1);
        c.refused(x, "fruits(-1, 25)", x.fruits(-1, 25), -1, 1);
        GraftQuarrel y = new GraftQuarrel();
        c.refused(y, "fruits(0, 25) without a VALLEY", y.fruits(0, 25), -1, 1);
    }

    static void promise13JustBears(Checks c) {
        GraftQuarrel x = one(0, 30, 30);
        c.goes(x, "bears", x.fruits(0, 24), 1);
        GraftQuarrel y = one(0, 30, 29);
        c.goes(y, "one less", y.fruits(0, 24), 0);
    }

    static void promise13OneASeason(Checks c) {
        GraftQuarrel x = one(0, 4, 30);
        c.goes(x, "in one", x.fruits(0, 1), 1);
        c.goes(x, "in seven", x.fruits(0, 7), 7);
        c.goes(x, "in eight", x.fruits(0, 8), 7);
    }

    static void promise13BehindWhatWinterTakes(Checks c) {
        GraftQuarrel x = one(1, 10, 9, "deed p season 3 feeds 1");
        c.goes(x, "one too few", x.fruits(0, 24), 0);
        GraftQuarrel y = one(1, 10, 9, "deed p season 3 feeds 2");
        c.goes(y, "just enough", y.fruits(0, 24), 1);
    }

    static void promise13NotThoseThatFellAlready(Checks c) {
        GraftQuarrel x = one(0, 4, 9);
        x.season();
        c.goes(x, "fruits(0, 24)", x.fruits(0, 24), 1);
        x.season();
        c.goes(x, "fruits(0, 24)", x.fruits(0, 24), 0);
        c.goes(x, "so far", x.quarrel(0, 5), 2);
    }

    static void promise13OfOneThatDoesNotStand(Checks c) {
        GraftQuarrel x = grafted(0, 4);
        c.goes(x, "of the scion", x.fruits(0, 24), 0);
        c.goes(x, "of the stock", x.fruits(1, 24), 1);
    }

    // ---- promise 14

    static void promise14NoSuchQuarrel(Checks c) {
        GraftQuarrel x = one(0, 4, 4);
        c.refused(x, "first(1)", x.first(1), -1, 1);
        c.refused(x, "first(-1)", x.first(-1), -1, 1);
        GraftQuarrel y = new GraftQuarrel();
        c.refused(y, "first(0) without a VALLEY", y.first(0), -1, 1);
    }

    static void promise14InTheFirstSeason(Checks c) {
        GraftQuarrel x = one(0, 4, 4);
        c.goes(x, "first(0)", x.first(0), 1);
    }

    static void promise14InTheTwentyFourthSeason(Checks c) {
        GraftQuarrel x = one(0, 4, 3, "deed p season 23 feeds 1");
        c.goes(x, "first(0)", x.first(0), 24);
        x.season();
        c.goes(x, "first(0) from NOW", x.first(0), 23);
    }

    static void promise14NeverInTwentyFour(Checks c) {
        GraftQuarrel x = one(0, 4, 3);
        c.goes(x, "first(0)", x.first(0), -2);
    }

    static void promise14TheOneThatFellAlreadyIsNone(Checks c) {
        GraftQuarrel x = one(0, 4, 7);
        x.season();
        c.goes(x, "first(0)", x.first(0), -2);
    }

    static void promise14OfOneThatDoesNotStand(Checks c) {
        GraftQuarrel x = grafted(0, 4);
        c.goes(x, "of the scion", x.first(0), -2);
        c.goes(x, "of the stock", x.first(1), 1);
    }

    // ---- promise 15

    static void promise15NumbersOfSeasons(Checks c) {
        GraftQuarrel x = one(0, 4, 4);
        for (int n : FAR) {
            c.refused(x, "fallen(" + n + ")", x.fallen(n), -1, 2);
        }
        c.goes(x, "fallen(0)", x.fallen(0), 0);
        c.goes(x, "fallen(1)", x.fallen(1), 1);
        c.goes(x, "fallen(24)", x.fallen(24), 1);
    }

    static void promise15NoValley(Checks c) {
        GraftQuarrel x = new GraftQuarrel();
        c.refused(x, "fallen(0)", x.fallen(0), -1, 1);
        c.refused(x, "fallen(25)", x.fallen(25), -1, 1);
    }

    static void promise15OfAll(Checks c) {
        GraftQuarrel x = Checks.ofText("valley winter 0 bears 4 coins 1 1 1 1" + TextBoundaries.AB.substring(
                TextBoundaries.V.length()) + TextBoundaries.times(6, "quarrel # love of a b vigour 30"));
        c.goes(x, "fallen(1)", x.fallen(1), 6);
        c.goes(x, "fallen(24)", x.fallen(24), 42);
        x.season();
        c.goes(x, "not those that fell already", x.fallen(24), 36);
    }

    // ---- promise 16

    static void promise16NumbersOfSeasons(Checks c) {
        GraftQuarrel x = one(0, 4, 3);
        for (int n : FAR) {
            c.refused(x, "suckers(" + n + ")", x.suckers(n), -1, 2);
        }
        c.goes(x, "suckers(0)", x.suckers(0), 0);
        c.goes(x, "suckers(24)", x.suckers(24), 2);
    }

    static void promise16NoValley(Checks c) {
        GraftQuarrel x = new GraftQuarrel();
        c.refused(x, "suckers(0)", x.suckers(0), -1, 1);
        c.refused(x, "suckers(25)", x.suckers(25), -1, 1);
    }

    static void promise16BehindEachTwelfth(Checks c) {
        GraftQuarrel x = one(0, 4, 3);
        int[][] due = {{11, 0}, {12, 1}, {13, 1}, {23, 1}, {24, 2}};
        for (int[] pair : due) {
            c.goes(x, "suckers(" + pair[0] + ")", x.suckers(pair[0]), pair[1]);
        }
        Checks.pass(x, 11);
        c.goes(x, "the twelfth itself", x.suckers(1), 1);
        x.season();
        c.goes(x, "not one that has come already", x.suckers(11), 0);
        c.goes(x, "the next twelfth", x.suckers(12), 1);
        Checks.pass(x, 24);
        c.goes(x, "behind 47", x.suckers(12), 1);
    }

    static void promise16VigourOfThree(Checks c) {
        GraftQuarrel x = one(0, 4, 2);
        c.goes(x, "2", x.suckers(24), 0);
        GraftQuarrel y = one(0, 4, 3);
        c.goes(y, "3", y.suckers(24), 2);
    }

    static void promise16BehindTheSeasonItself(Checks c) {
        GraftQuarrel winter = one(1, 30, 5);
        c.goes(winter, "3 ahead of the third winter, 2 behind it", winter.suckers(12), 0);
        GraftQuarrel fed = one(1, 30, 5, "deed p season 11 feeds 1");
        c.goes(fed, "3 behind it", fed.suckers(12), 1);
        GraftQuarrel fruit = one(0, 4, 3, "deed p season 11 feeds 1");
        c.goes(fruit, "a fruit takes all", fruit.suckers(12), 0);
    }

    static void promise16NotOfPottedOnes(Checks c) {
        GraftQuarrel x = one(0, 30, 29, "pot p");
        c.goes(x, "suckers(24)", x.suckers(24), 0);
    }

    static void promise16NotOfThoseThatDoNotStand(Checks c) {
        GraftQuarrel x = grafted(0, 30);
        c.goes(x, "of the stock alone", x.suckers(12), 1);
    }

    static void promise16TheyTakeNoVigour(Checks c) {
        GraftQuarrel x = one(0, 30, 3);
        c.goes(x, "vigour(0, 24)", x.vigour(0, 24), 3);
    }

    // ---- promise 17

    static void promise17NumbersOfSeasons(Checks c) {
        GraftQuarrel x = one(0, 4, 0);
        for (int n : FAR) {
            c.refused(x, "quiet(" + n + ")", x.quiet(n), -1, 2);
        }
        c.goes(x, "quiet(0)", x.quiet(0), 0);
        c.goes(x, "quiet(1)", x.quiet(1), 1);
        c.goes(x, "quiet(24)", x.quiet(24), 24);
    }

    static void promise17NoValley(Checks c) {
        GraftQuarrel x = new GraftQuarrel();
        c.refused(x, "quiet(0)", x.quiet(0), -1, 1);
        c.refused(x, "quiet(25)", x.quiet(25), -1, 1);
    }

    static void promise17NowIsNotAmongThem(Checks c) {
        GraftQuarrel x = one(1, 30, 0, "deed p season 0 feeds 9", "deed p season 0 feeds 9");
        c.goes(x, "quiet(24)", x.quiet(24), 0);
    }

    static void promise17TheLastIsAmongThem(Checks c) {
        GraftQuarrel x = one(1, 30, 1);
        c.goes(x, "quiet(3)", x.quiet(3), 0);
        c.goes(x, "quiet(4)", x.quiet(4), 1);
    }

    static void promise17AllFamilies(Checks c) {
        GraftQuarrel x = Checks.six(1, 30, "quarrel p land of a b vigour 1", "quarrel q land of c d vigour 2");
        c.goes(x, "quiet(7)", x.quiet(7), 0);
        c.goes(x, "quiet(8)", x.quiet(8), 1);
    }

    static void promise17PeaceThatEnds(Checks c) {
        GraftQuarrel x = one(1, 30, 0, "deed p season 1 feeds 1");
        c.goes(x, "behind 1 and 4, 5, ..", x.quiet(6), 4);
    }

    // ---- promise 18

    static void promise18NoValley(Checks c) {
        GraftQuarrel x = new GraftQuarrel();
        c.refused(x, "peaceBy()", x.peaceBy(), -1, 1);
    }

    static void promise18Now(Checks c) {
        GraftQuarrel x = one(1, 30, 0, "deed p season 0 feeds 9");
        c.goes(x, "peaceBy()", x.peaceBy(), 0);
    }

    static void promise18BehindTwentyFour(Checks c) {
        GraftQuarrel x = one(5, 30, 30);
        c.goes(x, "a fruit in the first season", x.peaceBy(), 1);
        GraftQuarrel y = one(4, 30, 24);
        c.goes(y, "six winters", y.peaceBy(), 24);
    }

    static void promise18NotBehindTwentyFour(Checks c) {
        GraftQuarrel x = one(4, 30, 25);
        c.goes(x, "seven winters", x.peaceBy(), -2);
        x.season();
        c.goes(x, "from NOW", x.peaceBy(), -2);
        Checks.pass(x, 3);
        c.goes(x, "seven winters of which one went by", x.peaceBy(), 24);
        GraftQuarrel y = one(0, 30, 1);
        c.goes(y, "never", y.peaceBy(), -2);
    }

    // ---- promise 19

    static void promise19NumbersOfSeasons(Checks c) {
        GraftQuarrel x = one(0, 4, 4);
        for (int n : FAR) {
            c.refused(x, "worst(" + n + ")", x.worst(n), -1, 2);
        }
        c.goes(x, "worst(0)", x.worst(0), -2);
        c.goes(x, "worst(24)", x.worst(24), 0);
    }

    static void promise19NoValley(Checks c) {
        GraftQuarrel x = new GraftQuarrel();
        c.refused(x, "worst(0)", x.worst(0), -1, 1);
        c.refused(x, "worst(25)", x.worst(25), -1, 1);
    }

    static void promise19NoneFalls(Checks c) {
        GraftQuarrel x = one(0, 4, 3);
        c.goes(x, "worst(24)", x.worst(24), -2);
    }

    static void promise19TheFirstOfLikeOnes(Checks c) {
        GraftQuarrel x = Checks.six(0, 4, "quarrel p land of a b vigour 3", "quarrel q land of a b vigour 8",
                "quarrel r land of a b vigour 9", "quarrel s land of a b vigour 12");
        c.goes(x, "worst(1)", x.worst(1), 1);
        c.goes(x, "worst(2)", x.worst(2), 1);
        c.goes(x, "worst(3)", x.worst(3), 3);
    }

    static void promise19TheSixth(Checks c) {
        GraftQuarrel x = NowBoundaries.sixQuarrels(4, 4, 4, 4, 4, 4, 8);
        c.goes(x, "worst(2)", x.worst(2), 5);
    }

    static void promise19NotByThoseThatFellAlready(Checks c) {
        GraftQuarrel x = Checks.six(0, 4, "quarrel p land of a b vigour 8", "quarrel q land of a b vigour 0",
                "deed q season 2 feeds 4");
        Checks.pass(x, 2);
        c.goes(x, "worst(24)", x.worst(24), 1);
    }

    // ---- promise 20

    static void promise20NumbersOfSeasons(Checks c) {
        GraftQuarrel x = one(0, 4, 4);
        for (int n : FAR) {
            c.refused(x, "spared(0, " + n + ")", x.spared(0, n), -100, 2);
        }
        c.goes(x, "spared(0, 0)", x.spared(0, 0), 0);
        c.goes(x, "spared(0, 24)", x.spared(0, 24), 1);
    }

    static void promise20NoSuchQuarrelAheadOfTheNumber(Checks c) {
        GraftQuarrel x = one(0, 4, 4);
        c.refused(x, "spared(1, 1)", x.spared(1, 1), -100, 1);
        c.refused(x, "spared(-1, 1)", x.spared(-1, 1), -100, 1);
        c.refused(x, "spared(1, 25)", x.spared(1, 25), -100, 1);
        GraftQuarrel y = new GraftQuarrel();
        c.refused(y, "spared(0, 25) without a VALLEY", y.spared(0, 25), -100, 1);
    }

    static void promise20OneThatDoesNotStand(Checks c) {
        GraftQuarrel x = grafted(0, 4);
        c.refused(x, "spared(0, 1)", x.spared(0, 1), -100, 1);
        c.refused(x, "spared(0, 25)", x.spared(0, 25), -100, 1);
        c.goes(x, "of the stock", x.spared(1, 1), 1);
    }

    static void promise20VigourNowAlone(Checks c) {
        // Deeds to come still feed it: 4 falls in season 1 anyway.
        GraftQuarrel x = one(0, 4, 4, "deed p season 1 feeds 4");
        c.goes(x, "spared(0, 2)", x.spared(0, 2), 1);
        GraftQuarrel y = one(0, 4, 3, "deed p season 1 feeds 4");
        c.goes(y, "nothing is spared", y.spared(0, 24), 0);
        c.is("its vigour stays", y.quarrel(0, 1), 3);
    }

    static void promise20NoVigourIsLeftOfIt(Checks c) {
        // By 1 that was left a fruit would fall in season 0.
        GraftQuarrel x = one(0, 4, 4, "deed p season 0 feeds 3");
        c.goes(x, "spared(0, 24)", x.spared(0, 24), 1);
    }

    static void promise20FruitsOfAll(Checks c) {
        GraftQuarrel x = Checks.six(0, 4, "quarrel p land of a b vigour 8", "quarrel q land of a b vigour 4");
        c.goes(x, "of the one", x.spared(0, 24), 2);
        c.goes(x, "of the other", x.spared(1, 24), 1);
    }
}
