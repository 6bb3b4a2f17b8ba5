/** Boundary cases of promises 36 to 40: EXPLAINED, judged, YEARS. */
final class ExplainBoundaries {
    private ExplainBoundaries() {
    }

    /** p 6 and q 7, a law each way, bears 10: by themselves none bears; p on q is 10, q on p is 9. */
    private static GraftQuarrel pair(String... more) {
        String[] lines = {"quarrel p land of a b vigour 6", "quarrel q word of c d vigour 7",
            "law land on word odds 1", "law word on land odds 2"};
        return Checks.six(0, 10, GraftsTest.with(lines, more));
    }

    private static void explained(Checks c, GraftQuarrel x, int... due) {
        c.goes(x, "ways()", x.ways(), due.length);
        for (int i = 0; i < due.length; i++) {
            c.goes(x, "wayAt(" + i + ")", x.wayAt(i), due[i]);
        }
        c.refused(x, "wayAt behind the last", x.wayAt(due.length), -1, 1);
    }

    // ---- promise 36

    static void promise36NoValley(Checks c) {
        GraftQuarrel x = new GraftQuarrel();
        c.refused(x, "ways()", x.ways(), -1, 1);
    }

    static void promise36NoWay(Checks c) {
        explained(c, pair("fell p season 1"));
    }

    static void promise36NoFruitIsTold(Checks c) {
        explained(c, pair(), -2, 10);
        explained(c, SeasonBoundaries.one(0, 4, 3), -2);
        explained(c, SeasonBoundaries.one(0, 4, 4));
    }

    static void promise36JustThoseThatAreTold(Checks c) {
        explained(c, pair("deed p season 2 feeds 4", "fell p season 2"), -2, 10);
        explained(c, pair("deed p season 2 feeds 4"));
        explained(c, pair("deed p season 2 feeds 4", "fell p season 2", "fell p season 5"));
        explained(c, pair("deed p season 2 feeds 4", "fell p season 3"));
    }

    static void promise36TheFirstAndTheLastSeason(Checks c) {
        explained(c, SeasonBoundaries.one(0, 4, 4, "deed p season 23 feeds 4", "fell p season 0", "fell p season 23"), -2);
        explained(c, SeasonBoundaries.one(0, 4, 4, "deed p season 23 feeds 4", "fell p season 0"));
        explained(c, SeasonBoundaries.one(0, 4, 4, "fell p season 0", "fell p season 23"));
    }

    static void promise36NotBehindTheLastSeason(Checks c) {
        // In season 24 one more would fall, which isn't asked.
        explained(c, SeasonBoundaries.one(0, 4, 0, "deed p season 23 feeds 9", "fell p season 23"), -2);
    }

    static void promise36TwoInOneSeason(Checks c) {
        String[] lines = {"quarrel p land of a b vigour 4", "quarrel q land of c d vigour 4"};
        explained(c, Checks.six(0, 4, GraftsTest.with(lines, "fell p season 0", "fell q season 0")), -2);
        explained(c, Checks.six(0, 4, GraftsTest.with(lines, "fell p season 0")));
        explained(c, Checks.six(0, 4, GraftsTest.with(lines, "fell q season 0")));
    }

    static void promise36OfTheGraftedOneCountsAsOfTheStock(Checks c) {
        explained(c, pair("fell q season 0"), 1);
        explained(c, pair("fell p season 0"), 1);
        explained(c, pair("fell p season 0", "fell q season 0"), 1);
    }

    static void promise36AGraftThatCannotBe(Checks c) {
        explained(c, pair("fell q season 0", "pot p"));
        explained(c, Checks.six(0, 10, "quarrel p land of a b vigour 6", "quarrel q word of c d vigour 7",
                "law word on land odds 2", "fell q season 0"));
        explained(c, Checks.six(0, 10, "quarrel p land of a b vigour 6", "quarrel q word of b d vigour 7",
                "law land on word odds 2", "fell q season 0"));
    }

    static void promise36ASingleGraft(Checks c) {
        // Bears is 14: only both on r would bear, by 6, 4 and 4; then it is 10, and one is enough.
        explained(c, Checks.six(0, 14, "quarrel p land of a b vigour 8", "quarrel q land of c d vigour 8",
                "quarrel r land of e f vigour 6", "law land on land odds 9", "fell r season 0"));
        explained(c, Checks.six(0, 10, "quarrel p land of a b vigour 8", "quarrel q land of c d vigour 8",
                "quarrel r land of e f vigour 6", "law land on land odds 9", "fell r season 0"), 2, 12, 20, 21);
    }

    static void promise36AllAsTold(Checks c) {
        GraftQuarrel x = pair("deed p season 2 feeds 4", "fell p season 2");
        x.graft(0, 1);
        Checks.pass(x, 3);
        x.nourish(1, 9);
        explained(c, x, -2, 10);
    }

    // ---- promise 37

    static void promise37NoSuchWay(Checks c) {
        GraftQuarrel x = pair();
        for (int i : new int[] {-1, 2, Integer.MIN_VALUE, Integer.MAX_VALUE}) {
            c.refused(x, "wayAt(" + i + ")", x.wayAt(i), -1, 1);
        }
        c.goes(x, "wayAt(0)", x.wayAt(0), -2);
        c.goes(x, "wayAt(1)", x.wayAt(1), 10);
    }

    static void promise37NoValley(Checks c) {
        GraftQuarrel x = new GraftQuarrel();
        c.refused(x, "wayAt(0)", x.wayAt(0), -1, 1);
    }

    static void promise37NoWay(Checks c) {
        GraftQuarrel x = pair("fell p season 1");
        c.refused(x, "wayAt(0)", x.wayAt(0), -1, 1);
    }

    static void promise37NoneAheadOfAllThenByScionsAndStocks(Checks c) {
        GraftQuarrel x = Checks.six(0, 30, "quarrel p land of a b vigour 1", "quarrel q land of c d vigour 1",
                "quarrel r land of e f vigour 1", "law land on land odds 1");
        explained(c, x, -2, 1, 2, 10, 12, 20, 21);
    }

    static void promise37AsManyAsCanBe(Checks c) {
        // Six quarrels, no two of which have a family in both but k n, l o, m p: 24 grafts.
        GraftQuarrel x = Checks.six(0, 30, "quarrel k land of a b vigour 1", "quarrel l land of c d vigour 1",
                "quarrel m land of e f vigour 1", "quarrel n land of a b vigour 1", "quarrel o land of c d vigour 1",
                "quarrel p land of e f vigour 1", "law land on land odds 1");
        c.goes(x, "ways()", x.ways(), 25);
        c.goes(x, "wayAt(24)", x.wayAt(24), 54);
        c.refused(x, "wayAt(25)", x.wayAt(25), -1, 1);
    }

    // ---- promise 38

    static void promise38NoValley(Checks c) {
        GraftQuarrel x = new GraftQuarrel();
        c.refused(x, "judge()", x.judge(), -1, 1);
    }

    static void promise38NoFruitIsTold(Checks c) {
        GraftQuarrel x = SeasonBoundaries.one(0, 4, 4);
        c.goes(x, "judge()", x.judge(), -2);
    }

    static void promise38AllFallSo(Checks c) {
        GraftQuarrel x = SeasonBoundaries.one(0, 4, 4, "deed p season 23 feeds 4", "fell p season 23",
                "fell p season 0");
        c.goes(x, "judge()", x.judge(), -2);
    }

    static void promise38TheFirstAsTold(Checks c) {
        GraftQuarrel x = SeasonBoundaries.one(0, 4, 4, "fell p season 9", "fell p season 0", "fell p season 1");
        c.goes(x, "by the order of the text", x.judge(), 0);
        GraftQuarrel y = SeasonBoundaries.one(0, 4, 4, "fell p season 0", "fell p season 9", "fell p season 1");
        c.goes(y, "not by seasons", y.judge(), 1);
    }

    static void promise38TheSixth(Checks c) {
        GraftQuarrel x = SeasonBoundaries.one(0, 4, 23, "fell p season 0", "fell p season 1", "fell p season 2",
                "fell p season 3", "fell p season 4", "fell p season 5");
        c.goes(x, "judge()", x.judge(), 5);
    }

    static void promise38OfThatQuarrelAlone(Checks c) {
        GraftQuarrel x = Checks.six(0, 4, "quarrel p land of a b vigour 4", "quarrel q land of a b vigour 3",
                "fell p season 0", "fell q season 0");
        c.goes(x, "judge()", x.judge(), 1);
    }

    static void promise38AsToldNothingGrafted(Checks c) {
        GraftQuarrel x = pair("fell q season 0");
        c.goes(x, "judge()", x.judge(), 0);
        x.graft(0, 1);
        c.goes(x, "judge() behind a graft by which it would fall", x.judge(), 0);
        x.season();
        c.goes(x, "judge() when it has fallen", x.judge(), 0);
    }

    // ---- promise 39

    static void promise39NumbersOfSeeds(Checks c) {
        GraftQuarrel x = SeasonBoundaries.one(0, 4, 0);
        for (int seed : new int[] {-1, 65537, Integer.MIN_VALUE, Integer.MAX_VALUE}) {
            c.refused(x, "year(" + seed + ")", x.year(seed), -1, 2);
        }
        // By 0 it is fed 5624, 51790, 12409, 9344, each mod 6: 2, 4, 1, 2.
        c.goes(x, "year(0)", x.year(0), 2);
        // By 65536 each draw is 65536: 4 each season.
        c.goes(x, "year(65536)", x.year(65536), 4);
    }

    static void promise39NoValley(Checks c) {
        GraftQuarrel x = new GraftQuarrel();
        c.refused(x, "year(0)", x.year(0), -1, 1);
        c.refused(x, "year(-1)", x.year(-1), -1, 1);
    }

    static void promise39TheGreatestSeedDrawsItself(Checks c) {
        // 65536 mod 3 is 1: q is fed 4 each season; p and r would bear by 1.
        GraftQuarrel x = Checks.six(0, 8, "quarrel p land of a b vigour 7", "quarrel q land of a b vigour 0",
                "quarrel r land of a b vigour 7");
        c.goes(x, "year(65536)", x.year(65536), 2);
    }

    static void promise39TwoDrawsASeason(Checks c) {
        // By 0: 74 mod 2, 5624 mod 6; 28652, 51790; 17641, 12409; 13231, 9344: p 2, p 4, q 1, q 2.
        int[][] due = {{0, 0, 6, 1}, {0, 0, 7, 0}, {1, 0, 7, 1}, {0, 3, 6, 2}, {0, 3, 7, 0}, {0, 4, 7, 1}};
        for (int[] row : due) {
            GraftQuarrel x = Checks.six(0, row[2], "quarrel p land of a b vigour " + row[0],
                    "quarrel q land of a b vigour " + row[1]);
            c.goes(x, "by " + row[0] + " and " + row[1] + ", bears " + row[2], x.year(0), row[3]);
        }
    }

    static void promise39InPlaceOfDeedsTold(Checks c) {
        GraftQuarrel x = SeasonBoundaries.one(0, 30, 0, "deed p season 0 feeds 9", "deed p season 1 feeds 9",
                "deed p season 2 feeds 9", "deed p season 3 feeds 9");
        c.goes(x, "16 by draws", x.year(65536), 0);
    }

    static void promise39FourSeasonsFromNow(Checks c) {
        // It is fed 4 each season, bears 12, and winter takes all or leaves 3.
        GraftQuarrel x = SeasonBoundaries.one(9, 12, 0);
        c.goes(x, "12 in autumn", x.year(65536), 1);
        Checks.pass(x, 1);
        c.goes(x, "8 ahead of winter, 3 behind it, 7", x.year(65536), 0);
        Checks.pass(x, 2);
        c.goes(x, "winter first: 0, 4, 8, 12", x.year(65536), 1);
    }

    static void promise39OnWhatItIsGraftedIsFed(Checks c) {
        // 65536 mod 3 is 1, which is on 2.
        GraftQuarrel x = Checks.six(0, 8, "quarrel p land of a b vigour 0", "quarrel q land of c d vigour 0",
                "quarrel r land of e f vigour 4", "law land on land odds 1");
        x.graft(1, 2);
        c.goes(x, "4 and 16", x.year(65536), 2);
        x.nourish(2, 4);
        c.goes(x, "8 and 16", x.year(65536), 3);
    }

    static void promise39NothingGoesByWhenAsked(Checks c) {
        GraftQuarrel x = SeasonBoundaries.one(0, 4, 0);
        x.year(65536);
        c.is("NOW", x.size(8), 0);
        c.is("vigour", x.quarrel(0, 1), 0);
        c.goes(x, "the same by the same", x.year(65536), 4);
    }

    // ---- promise 40

    static void promise40NumbersOfYears(Checks c) {
        GraftQuarrel x = SeasonBoundaries.one(0, 4, 0);
        for (int n : new int[] {-1, 21, Integer.MIN_VALUE, Integer.MAX_VALUE}) {
            c.refused(x, "years(0, " + n + ")", x.years(0, n), -1, 2);
        }
        c.goes(x, "years(65536, 0)", x.years(65536, 0), 0);
        c.goes(x, "years(65536, 1)", x.years(65536, 1), 4);
        c.goes(x, "years(65536, 20)", x.years(65536, 20), 80);
    }

    static void promise40NumbersOfSeeds(Checks c) {
        GraftQuarrel x = SeasonBoundaries.one(0, 4, 0);
        for (int seed : new int[] {-1, 65537, Integer.MIN_VALUE, Integer.MAX_VALUE}) {
            c.refused(x, "years(" + seed + ", 1)", x.years(seed, 1), -1, 2);
            c.refused(x, "years(" + seed + ", 0)", x.years(seed, 0), -1, 2);
        }
        c.goes(x, "years(0, 1)", x.years(0, 1), 2);
    }

    static void promise40NoValley(Checks c) {
        GraftQuarrel x = new GraftQuarrel();
        c.refused(x, "years(0, 0)", x.years(0, 0), -1, 1);
        c.refused(x, "years(-1, 21)", x.years(-1, 21), -1, 1);
    }

    static void promise40AllGoesOn(Checks c) {
        // 16 a year: of bears 30 one in the second year, by what the first left.
        GraftQuarrel x = SeasonBoundaries.one(0, 30, 0);
        c.goes(x, "in one", x.years(65536, 1), 0);
        c.goes(x, "in two", x.years(65536, 2), 1);
        c.goes(x, "in twenty: 320", x.years(65536, 20), 10);
    }

    static void promise40TheSeedGoesOn(Checks c) {
        // By 0: 2, 4, 1, 2, then 4950, 61686, 36496, 33740 mod 6: 0, 0, 4, 2.
        GraftQuarrel x = SeasonBoundaries.one(0, 15, 0);
        c.goes(x, "9 and 6", x.years(0, 2), 1);
        GraftQuarrel y = SeasonBoundaries.one(0, 16, 0);
        c.goes(y, "not 9 and 9", y.years(0, 2), 0);
    }
}
