/** Boundary cases of promises 28 to 31: PRUNE and FEED. */
final class PruneBoundaries {
    private PruneBoundaries() {
    }

    private static GraftQuarrel one(int winter, int bears, int vigour, String... more) {
        return SeasonBoundaries.one(winter, bears, vigour, more);
    }

    private static void cuts(Checks c, GraftQuarrel x, int coins, int... due) {
        c.goes(x, "prune(0, " + due.length + ")", x.prune(0, due.length), coins);
        for (int i = 0; i < due.length; i++) {
            c.goes(x, "pruneAt(0, " + due.length + ", " + i + ")", x.pruneAt(0, due.length, i), due[i]);
        }
    }

    // ---- promise 28

    static void promise28NumbersOfSeasons(Checks c) {
        GraftQuarrel x = one(0, 4, 5);
        for (int n : new int[] {-1, 13, Integer.MIN_VALUE, Integer.MAX_VALUE}) {
            c.refused(x, "prune(0, " + n + ")", x.prune(0, n), -1, 2);
        }
        c.goes(x, "prune(0, 0)", x.prune(0, 0), 0);
        c.goes(x, "prune(0, 1)", x.prune(0, 1), 2);
        c.goes(x, "prune(0, 12)", x.prune(0, 12), 2);
    }

    static void promise28NoSuchQuarrelAheadOfTheNumber(Checks c) {
        GraftQuarrel x = one(0, 4, 5);
        c.refused(x, "prune(1, 1)", x.prune(1, 1), -1, 1);
        c.refused(x, "prune(-1, 1)", x.prune(-1, 1), -1, 1);
        c.refused(x, "prune(1, 13)", x.prune(1, 13), -1, 1);
        GraftQuarrel y = new GraftQuarrel();
        c.refused(y, "prune(0, 13) without a VALLEY", y.prune(0, 13), -1, 1);
    }

    static void promise28OneThatDoesNotStand(Checks c) {
        GraftQuarrel x = SeasonBoundaries.grafted(0, 30);
        c.refused(x, "prune(0, 1)", x.prune(0, 1), -1, 1);
        c.refused(x, "prune(0, 13)", x.prune(0, 13), -1, 1);
        c.goes(x, "prune(1, 1)", x.prune(1, 1), 0);
    }

    static void promise28DeedsOfOneSeasonAreBears(Checks c) {
        GraftQuarrel x = one(0, 10, 0, "deed p season 1 feeds 9", "deed p season 1 feeds 1");
        c.goes(x, "ahead of that season", x.prune(0, 1), 0);
        c.goes(x, "just bears", x.prune(0, 2), -2);
        GraftQuarrel y = one(0, 10, 0, "deed p season 1 feeds 9", "deed p season 2 feeds 1");
        c.goes(y, "one less", y.prune(0, 2), 0);
    }

    static void promise28TheTwelfthAndTheThirteenth(Checks c) {
        GraftQuarrel x = one(0, 4, 0, "deed p season 11 feeds 4");
        c.goes(x, "in the twelfth", x.prune(0, 12), -2);
        c.goes(x, "in eleven", x.prune(0, 11), 0);
        GraftQuarrel y = one(0, 4, 0, "deed p season 12 feeds 4");
        c.goes(y, "in the thirteenth", y.prune(0, 12), 0);
        y.season();
        c.goes(y, "from NOW in the twelfth", y.prune(0, 12), -2);
    }

    static void promise28OneBelowBearsMayStay(Checks c) {
        GraftQuarrel x = one(0, 10, 9);
        c.goes(x, "9", x.prune(0, 12), 0);
        GraftQuarrel y = one(0, 10, 10);
        c.goes(y, "10", y.prune(0, 12), 1);
    }

    static void promise28WinterTakesFirst(Checks c) {
        // NOW is winter: of deeds of 18 it takes 9, so that they are less than bears behind it.
        GraftQuarrel x = one(9, 10, 0, "deed p season 3 feeds 9", "deed p season 3 feeds 9");
        Checks.pass(x, 3);
        c.goes(x, "9 behind winter", x.prune(0, 1), 0);
        x.nourish(0, 1);
        c.goes(x, "10 behind winter", x.prune(0, 1), 1);
        GraftQuarrel y = one(9, 10, 0, "deed p season 3 feeds 9", "deed p season 3 feeds 9",
                "deed p season 3 feeds 1");
        Checks.pass(y, 3);
        c.goes(y, "deeds are bears behind winter", y.prune(0, 1), -2);
    }

    static void promise28WinterLeavesNoneAtLeast(Checks c) {
        // 5 and what winter takes are nothing: 9 may come behind it.
        GraftQuarrel x = one(9, 10, 5, "deed p season 4 feeds 9");
        for (int i = 0; i < 3; i++) {
            cuts(c, x, 0, 0, 0, 0, 0, 0, 0, 0, 0, 0, 0, 0, 0);
        }
    }

    static void promise28OfTheSixth(Checks c) {
        GraftQuarrel x = NowBoundaries.sixQuarrels(10, 1, 1, 1, 1, 1, 12);
        c.goes(x, "prune(5, 12)", x.prune(5, 12), 3);
        c.refused(x, "prune(6, 12)", x.prune(6, 12), -1, 1);
    }

    static void promise28WinterNotOfPottedOnes(Checks c) {
        GraftQuarrel x = one(9, 10, 0, "deed p season 3 feeds 9", "deed p season 3 feeds 1", "pot p");
        c.goes(x, "prune(0, 4)", x.prune(0, 4), -2);
    }

    static void promise28CoinsOfTheSeason(Checks c) {
        String[] lines = {"family a people 1", "family b people 1", "quarrel p land of a b vigour 9",
            "deed p season 3 feeds 1"};
        GraftQuarrel x = Checks.ofText("valley winter 0 bears 10 coins 9 8 7 1;" + String.join(";", lines));
        cuts(c, x, 1, 0, 0, 0, 1);
        GraftQuarrel y = Checks.ofText("valley winter 0 bears 10 coins 9 8 1 7;" + String.join(";", lines));
        cuts(c, y, 1, 0, 0, 1, 0);
    }

    static void promise28MuchMoreThanBears(Checks c) {
        GraftQuarrel x = one(9, 30, 30);
        for (int i = 0; i < 50; i++) {
            x.nourish(0, 9);
        }
        c.goes(x, "480 to 29", x.prune(0, 1), 451);
        c.goes(x, "in one cut", x.pruneAt(0, 1, 0), 451);
    }

    static void promise28MuchMoreThanBearsByItsCoins(Checks c) {
        GraftQuarrel x = Checks.ofText("valley winter 9 bears 30 coins 7 5 3 2;family a people 1;family b people 1;"
                + "quarrel p land of a b vigour 30;deed p season 2 feeds 9");
        for (int i = 0; i < 20; i++) {
            x.nourish(0, 9);
        }
        // 29 may stay through spring and summer, 20 ahead of autumn.
        cuts(c, x, 181 * 7 + 9 * 3, 181, 0, 9);
        Checks.pass(x, 3);
        // 129 in winter, which takes 9: 38 may stay ahead of it.
        cuts(c, x, 91 * 2, 91);
    }

    static void promise28ItCannotBeByMuchVigourEither(Checks c) {
        for (int season = 0; season < 2; season++) {
            GraftQuarrel x = one(0, 4, 30, "deed p season " + season + " feeds 4");
            for (int i = 0; i < 50; i++) {
                c.goes(x, "prune(0, 2)", x.prune(0, 2), -2);
                c.refused(x, "pruneAt(0, 2, 0)", x.pruneAt(0, 2, 0), -1, 6);
                x.nourish(0, 9);
            }
        }
    }

    static void promise28BehindOneThatCannotBe(Checks c) {
        // p is asked ahead of q and behind it: what can't be of q is nothing to p.
        GraftQuarrel x = Checks.six(0, 4, "quarrel p land of a b vigour 9", "quarrel q land of a b vigour 9",
                "deed q season 0 feeds 4", "deed q season 1 feeds 4");
        for (int i = 0; i < 2; i++) {
            cuts(c, x, 6, 6, 0);
            c.goes(x, "prune(1, 2)", x.prune(1, 2), -2);
        }
    }

    static void promise28DeedsOfGraftedOnes(Checks c) {
        GraftQuarrel x = SeasonBoundaries.grafted(0, 10, "deed p season 1 feeds 9", "deed q season 1 feeds 1");
        c.goes(x, "prune(1, 1)", x.prune(1, 1), 0);
        c.goes(x, "prune(1, 2)", x.prune(1, 2), -2);
    }

    // ---- promise 29

    static void promise29NumbersOfSeasons(Checks c) {
        GraftQuarrel x = one(0, 4, 5);
        for (int n : new int[] {-1, 13, Integer.MIN_VALUE, Integer.MAX_VALUE}) {
            c.refused(x, "pruneAt(0, " + n + ", 0)", x.pruneAt(0, n, 0), -1, 2);
        }
        c.goes(x, "pruneAt(0, 1, 0)", x.pruneAt(0, 1, 0), 2);
        c.goes(x, "pruneAt(0, 12, 11)", x.pruneAt(0, 12, 11), 0);
    }

    static void promise29NoSuchSeasonOfThem(Checks c) {
        GraftQuarrel x = one(0, 4, 5);
        c.refused(x, "pruneAt(0, 0, 0)", x.pruneAt(0, 0, 0), -1, 1);
        c.refused(x, "pruneAt(0, 2, 2)", x.pruneAt(0, 2, 2), -1, 1);
        c.refused(x, "pruneAt(0, 12, 12)", x.pruneAt(0, 12, 12), -1, 1);
        c.refused(x, "pruneAt(0, 2, -1)", x.pruneAt(0, 2, -1), -1, 1);
        c.refused(x, "pruneAt(0, 2, least)", x.pruneAt(0, 2, Integer.MIN_VALUE), -1, 1);
        c.refused(x, "pruneAt(0, 2, greatest)", x.pruneAt(0, 2, Integer.MAX_VALUE), -1, 1);
        c.goes(x, "pruneAt(0, 2, 1)", x.pruneAt(0, 2, 1), 0);
    }

    static void promise29NoSuchQuarrelAheadOfAll(Checks c) {
        GraftQuarrel x = one(0, 4, 5);
        c.refused(x, "pruneAt(1, 13, 0)", x.pruneAt(1, 13, 0), -1, 1);
        c.refused(x, "pruneAt(-1, 1, 0)", x.pruneAt(-1, 1, 0), -1, 1);
        GraftQuarrel y = new GraftQuarrel();
        c.refused(y, "pruneAt(0, 13, 0) without a VALLEY", y.pruneAt(0, 13, 0), -1, 1);
    }

    static void promise29OneThatDoesNotStand(Checks c) {
        GraftQuarrel x = SeasonBoundaries.grafted(0, 30);
        c.refused(x, "pruneAt(0, 1, 0)", x.pruneAt(0, 1, 0), -1, 1);
        c.refused(x, "pruneAt(0, 13, 0)", x.pruneAt(0, 13, 0), -1, 1);
    }

    static void promise29TheNumberAheadOfTheSeasonOfThem(Checks c) {
        GraftQuarrel x = one(0, 4, 5);
        c.refused(x, "pruneAt(0, 13, 99)", x.pruneAt(0, 13, 99), -1, 2);
    }

    static void promise29ItCannotBe(Checks c) {
        GraftQuarrel x = one(0, 4, 0, "deed p season 1 feeds 4");
        c.refused(x, "pruneAt(0, 2, 0)", x.pruneAt(0, 2, 0), -1, 6);
        c.refused(x, "pruneAt(0, 2, 1)", x.pruneAt(0, 2, 1), -1, 6);
        c.refused(x, "no such season of them is ahead", x.pruneAt(0, 2, 2), -1, 1);
        c.goes(x, "pruneAt(0, 1, 0)", x.pruneAt(0, 1, 0), 0);
    }

    static void promise29OfLikeOnesTheMostInTheFirst(Checks c) {
        cuts(c, one(0, 10, 9, "deed p season 3 feeds 5"), 5, 5, 0, 0, 0);
        cuts(c, one(0, 10, 9, "deed p season 3 feeds 5", "deed p season 1 feeds 1"), 6, 6, 0, 0, 0);
    }

    static void promise29ThenInTheSecond(Checks c) {
        // All of 2 goes first; of the 9 that come in season 0 the rest goes in season 1.
        cuts(c, one(0, 10, 2, "deed p season 0 feeds 9", "deed p season 3 feeds 6"), 8, 2, 6, 0, 0);
    }

    static void promise29NoMoreThanThereIs(Checks c) {
        // 1 can be cut in the first season, though 9 are due in the second.
        cuts(c, one(0, 10, 1, "deed p season 0 feeds 8", "deed p season 1 feeds 9"), 9, 1, 8);
    }

    // ---- promise 30

    static void promise30NumbersOfSeasons(Checks c) {
        GraftQuarrel x = one(0, 4, 3, "deed p season 23 feeds 1");
        for (int ahead : new int[] {-1, 24, Integer.MIN_VALUE, Integer.MAX_VALUE}) {
            c.refused(x, "feedFor(0, " + ahead + ")", x.feedFor(0, ahead), -1, 2);
        }
        c.goes(x, "feedFor(0, 0)", x.feedFor(0, 0), 1);
        c.goes(x, "feedFor(0, 23)", x.feedFor(0, 23), 0);
    }

    static void promise30NoSuchQuarrelAheadOfTheNumber(Checks c) {
        GraftQuarrel x = one(0, 4, 3);
        c.refused(x, "feedFor(1, 0)", x.feedFor(1, 0), -1, 1);
        c.refused(x, "feedFor(-1, 0)", x.feedFor(-1, 0), -1, 1);
        c.refused(x, "feedFor(1, 24)", x.feedFor(1, 24), -1, 1);
        GraftQuarrel y = new GraftQuarrel();
        c.refused(y, "feedFor(0, 24) without a VALLEY", y.feedFor(0, 24), -1, 1);
    }

    static void promise30OneThatDoesNotStand(Checks c) {
        GraftQuarrel x = SeasonBoundaries.grafted(0, 30);
        c.refused(x, "feedFor(0, 0)", x.feedFor(0, 0), -1, 1);
        c.refused(x, "feedFor(0, 24)", x.feedFor(0, 24), -1, 1);
        c.goes(x, "feedFor(1, 0)", x.feedFor(1, 0), 24);
    }

    static void promise30NothingIsEnough(Checks c) {
        GraftQuarrel x = one(0, 30, 30);
        c.goes(x, "feedFor(0, 0)", x.feedFor(0, 0), 0);
        x.nourish(0, 9);
        c.goes(x, "feedFor(0, 0) of more than bears", x.feedFor(0, 0), 0);
    }

    static void promise30JustSixty(Checks c) {
        GraftQuarrel x = one(0, 30, 0);
        c.goes(x, "feedFor(0, 1)", x.feedFor(0, 1), 60);
        c.goes(x, "feedFor(0, 2)", x.feedFor(0, 2), -2);
    }

    static void promise30SixtyIsNotRightEither(Checks c) {
        // NOW is winter, which takes 1: by 60 only 59 are there, and 29 in the next season.
        GraftQuarrel x = one(1, 30, 0);
        Checks.pass(x, 3);
        c.goes(x, "feedFor(0, 1)", x.feedFor(0, 1), -2);
        x.nourish(0, 1);
        c.goes(x, "feedFor(0, 1) with 1", x.feedFor(0, 1), 60);
    }

    static void promise30MoreMayNotBeRight(Checks c) {
        // A fruit falls in season 1 by itself; by 1 it falls in season 0.
        GraftQuarrel x = one(0, 10, 9, "deed p season 1 feeds 1");
        c.goes(x, "feedFor(0, 1)", x.feedFor(0, 1), 0);
        x.cut(0, 1);
        c.goes(x, "feedFor(0, 1) of 8", x.feedFor(0, 1), 1);
        c.goes(x, "feedFor(0, 0) of 8", x.feedFor(0, 0), 2);
    }

    static void promise30AheadOfWhatWinterTakes(Checks c) {
        GraftQuarrel x = one(9, 10, 0);
        Checks.pass(x, 3);
        c.goes(x, "in winter", x.feedFor(0, 0), 19);
        GraftQuarrel y = one(9, 10, 0, "pot p");
        Checks.pass(y, 3);
        c.goes(y, "potted", y.feedFor(0, 0), 10);
    }

    static void promise30NothingIsFed(Checks c) {
        GraftQuarrel x = one(0, 30, 0);
        x.feedFor(0, 0);
        c.is("vigour", x.quarrel(0, 1), 0);
        c.is("acts", x.size(10), 0);
    }

    // ---- promise 31

    static void promise31NumbersOfSeasons(Checks c) {
        GraftQuarrel x = one(0, 4, 3, "deed p season 23 feeds 1");
        for (int ahead : new int[] {-1, 24, Integer.MIN_VALUE, Integer.MAX_VALUE}) {
            c.refused(x, "feedAgainst(0, " + ahead + ", 0)", x.feedAgainst(0, ahead, 0), -1, 2);
        }
        c.goes(x, "feedAgainst(0, 0, 0)", x.feedAgainst(0, 0, 0), 1);
        c.goes(x, "feedAgainst(0, 23, 0)", x.feedAgainst(0, 23, 0), 0);
    }

    static void promise31NumbersOfCuts(Checks c) {
        GraftQuarrel x = one(0, 30, 30);
        for (int cut : new int[] {-1, 10, Integer.MIN_VALUE, Integer.MAX_VALUE}) {
            c.refused(x, "feedAgainst(0, 0, " + cut + ")", x.feedAgainst(0, 0, cut), -1, 2);
        }
        c.goes(x, "feedAgainst(0, 0, 0)", x.feedAgainst(0, 0, 0), 0);
        c.goes(x, "feedAgainst(0, 0, 9)", x.feedAgainst(0, 0, 9), 9);
    }

    static void promise31NoSuchQuarrelAheadOfNumbers(Checks c) {
        GraftQuarrel x = one(0, 4, 3);
        c.refused(x, "feedAgainst(1, 0, 0)", x.feedAgainst(1, 0, 0), -1, 1);
        c.refused(x, "feedAgainst(-1, 24, 0)", x.feedAgainst(-1, 24, 0), -1, 1);
        c.refused(x, "feedAgainst(1, 0, 10)", x.feedAgainst(1, 0, 10), -1, 1);
        GraftQuarrel y = new GraftQuarrel();
        c.refused(y, "feedAgainst(0, 24, 10) without a VALLEY", y.feedAgainst(0, 24, 10), -1, 1);
    }

    static void promise31OneThatDoesNotStand(Checks c) {
        GraftQuarrel x = SeasonBoundaries.grafted(0, 30);
        c.refused(x, "feedAgainst(0, 0, 0)", x.feedAgainst(0, 0, 0), -1, 1);
        c.refused(x, "feedAgainst(0, 24, 0)", x.feedAgainst(0, 24, 0), -1, 1);
        c.goes(x, "feedAgainst(1, 0, 0)", x.feedAgainst(1, 0, 0), 24);
    }

    static void promise31NothingIsEnough(Checks c) {
        GraftQuarrel x = one(0, 30, 30);
        c.goes(x, "feedAgainst(0, 0, 0)", x.feedAgainst(0, 0, 0), 0);
        x.nourish(0, 9);
        c.goes(x, "feedAgainst(0, 0, 0) of more than bears", x.feedAgainst(0, 0, 0), 0);
        c.goes(x, "feedAgainst(0, 0, 9)", x.feedAgainst(0, 0, 9), 0);
    }

    static void promise31NoMoreThanItsVigour(Checks c) {
        GraftQuarrel x = one(0, 10, 3);
        int[] due = {7, 8, 9, 10, 10, 10, 10, 10, 10, 10};
        for (int cut = 0; cut <= 9; cut++) {
            c.goes(x, "feedAgainst(0, 0, " + cut + ")", x.feedAgainst(0, 0, cut), due[cut]);
        }
    }

    static void promise31CutAtTheBeginningOfEach(Checks c) {
        // By 6: 6 of which 2 are cut, 10 in season 1; by 5: 5, 8, 11 in season 2.
        GraftQuarrel x = one(0, 10, 0);
        c.goes(x, "feedAgainst(0, 1, 2)", x.feedAgainst(0, 1, 2), 6);
        c.goes(x, "feedAgainst(0, 2, 2)", x.feedAgainst(0, 2, 2), 5);
        // By 9 nothing of it is left behind a cut of 9: 10 bear by themselves.
        c.goes(x, "feedAgainst(0, 1, 9)", x.feedAgainst(0, 1, 9), 10);
    }

    static void promise31InTheSeasonNowToo(Checks c) {
        GraftQuarrel x = one(0, 10, 0);
        c.goes(x, "feedAgainst(0, 0, 0)", x.feedAgainst(0, 0, 0), 10);
        c.goes(x, "feedAgainst(0, 1, 0)", x.feedAgainst(0, 1, 0), 5);
    }

    static void promise31TheMostThatCanBeDue(Checks c) {
        // Bears and what winter takes are 39 at most: sixty is right for any.
        GraftQuarrel x = one(9, 30, 0);
        Checks.pass(x, 3);
        c.goes(x, "in winter", x.feedAgainst(0, 0, 9), 39);
    }

    static void promise31DeedsFeedItToo(Checks c) {
        GraftQuarrel x = one(0, 10, 0, "deed p season 1 feeds 9");
        c.goes(x, "feedAgainst(0, 0, 0)", x.feedAgainst(0, 0, 0), 10);
        c.goes(x, "feedAgainst(0, 1, 0)", x.feedAgainst(0, 1, 0), 1);
    }
}
