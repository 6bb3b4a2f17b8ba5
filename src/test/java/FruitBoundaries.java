/** Boundary cases of promises 32 to 35: SHARES of a FRUIT, a GAME, its RESTS. */
final class FruitBoundaries {
    private static final int[] FAR = {Integer.MIN_VALUE, Integer.MAX_VALUE};

    private FruitBoundaries() {
    }

    private static GraftQuarrel people(int a, int b, int c, int d) {
        return Checks.of("family a people " + a, "family b people " + b, "family c people " + c,
                "family d people " + d, "quarrel p land of a b vigour 1", "quarrel q land of c d vigour 1",
                "law land on land odds 1");
    }

    private static void shares(Checks c, GraftQuarrel x, int q, int deeds, int... due) {
        for (int f = 0; f < due.length; f++) {
            c.goes(x, "share(" + q + ", " + f + ", " + deeds + ")", x.share(q, f, deeds), due[f]);
        }
    }

    // ---- promise 32

    static void promise32NumbersOfDeeds(Checks c) {
        GraftQuarrel x = people(99, 1, 1, 1);
        c.refused(x, "share(0, 0, -1)", x.share(0, 0, -1), -1, 2);
        c.refused(x, "share(0, 0, 1000)", x.share(0, 0, 1000), -1, 2);
        for (int far : FAR) {
            c.refused(x, "share(0, 0, " + far + ")", x.share(0, 0, far), -1, 2);
        }
        shares(c, x, 0, 0, 0, 0, 0, 0);
        shares(c, x, 0, 999, 989, 10, 0, 0);
    }

    static void promise32NoSuchQuarrelAheadOfTheNumber(Checks c) {
        GraftQuarrel x = people(1, 1, 1, 1);
        c.refused(x, "share(2, 0, 1)", x.share(2, 0, 1), -1, 1);
        c.refused(x, "share(-1, 0, 1)", x.share(-1, 0, 1), -1, 1);
        c.refused(x, "share(2, 0, 1000)", x.share(2, 0, 1000), -1, 1);
        GraftQuarrel y = new GraftQuarrel();
        c.refused(y, "share(0, 0, 1000) without a VALLEY", y.share(0, 0, 1000), -1, 1);
    }

    static void promise32NoSuchFamilyAheadOfTheNumber(Checks c) {
        GraftQuarrel x = people(1, 1, 1, 1);
        c.refused(x, "share(0, 4, 1)", x.share(0, 4, 1), -1, 1);
        c.refused(x, "share(0, -1, 1)", x.share(0, -1, 1), -1, 1);
        c.refused(x, "share(0, 4, -1)", x.share(0, 4, -1), -1, 1);
        for (int far : FAR) {
            c.refused(x, "share(0, " + far + ", 1)", x.share(0, far, 1), -1, 1);
        }
        c.goes(x, "share(1, 3, 2)", x.share(1, 3, 2), 1);
    }

    static void promise32AQuarrelThatDoesNotStand(Checks c) {
        GraftQuarrel x = people(1, 1, 1, 1);
        x.graft(0, 1);
        c.refused(x, "share(0, 0, 4)", x.share(0, 0, 4), -1, 1);
        c.refused(x, "share(0, 0, 1000)", x.share(0, 0, 1000), -1, 1);
        shares(c, x, 1, 4, 1, 1, 1, 1);
    }

    static void promise32AFamilyThatIsNotOfItsParties(Checks c) {
        GraftQuarrel x = people(1, 1, 99, 99);
        c.goes(x, "share(0, 2, 999)", x.share(0, 2, 999), 0);
        c.refused(x, "a number too", x.share(0, 2, 1000), -1, 2);
        shares(c, x, 0, 999, 500, 499, 0, 0);
    }

    static void promise32Downwards(Checks c) {
        // 99 of 100 people: of 1 deed 0 and 99 over, 0 and 1 over.
        GraftQuarrel x = people(99, 1, 1, 2);
        shares(c, x, 0, 1, 1, 0, 0, 0);
        shares(c, x, 0, 100, 99, 1, 0, 0);
        shares(c, x, 0, 50, 50, 0, 0, 0);
        shares(c, x, 0, 51, 50, 1, 0, 0);
        shares(c, x, 1, 2, 0, 0, 1, 1);
        shares(c, x, 1, 3, 0, 0, 1, 2);
    }

    static void promise32TheGreatestRestsFirst(Checks c) {
        // Of 10 people 1, 2, 3, 4: of 6 deeds 0 and 6, 1 and 2, 1 and 8, 2 and 4 over: two are left.
        GraftQuarrel x = people(1, 2, 3, 4);
        x.graft(0, 1);
        shares(c, x, 1, 6, 1, 1, 2, 2);
        // Of 4: 0 and 4, 0 and 8, 1 and 2, 1 and 6: two are left.
        shares(c, x, 1, 4, 0, 1, 1, 2);
    }

    static void promise32OfLikeRestsTheFirst(Checks c) {
        GraftQuarrel x = people(7, 7, 7, 7);
        shares(c, x, 0, 1, 1, 0, 0, 0);
        shares(c, x, 1, 999, 0, 0, 500, 499);
        x.graft(0, 1);
        shares(c, x, 1, 1, 1, 0, 0, 0);
        shares(c, x, 1, 2, 1, 1, 0, 0);
        shares(c, x, 1, 3, 1, 1, 1, 0);
        shares(c, x, 1, 4, 1, 1, 1, 1);
    }

    static void promise32NothingIsLeft(Checks c) {
        GraftQuarrel x = people(1, 2, 3, 4);
        shares(c, x, 0, 3, 1, 2, 0, 0);
        shares(c, x, 0, 999, 333, 666, 0, 0);
    }

    static void promise32OfAllSixFamilies(Checks c) {
        GraftQuarrel x = NowBoundaries.chain();
        x.graft(0, 1);
        x.graft(1, 2);
        // Of 21 people 1 to 6, of 20 deeds: 20, 19, .. 15 of 21 over; five are left.
        shares(c, x, 2, 20, 1, 2, 3, 4, 5, 5);
    }

    // ---- promise 33

    static void promise33NumbersOfWhatTheyDo(Checks c) {
        GraftQuarrel x = SeasonBoundaries.one(0, 10, 10);
        for (int wrong : new int[] {-1, 5, Integer.MIN_VALUE, Integer.MAX_VALUE}) {
            c.refused(x, "game(0, " + wrong + ", 0, false)", x.game(0, wrong, 0, false), -100, 2);
            c.refused(x, "game(0, 0, " + wrong + ", true)", x.game(0, 0, wrong, true), -100, 2);
        }
        c.goes(x, "game(0, 0, 0, false)", x.game(0, 0, 0, false), 9);
        c.goes(x, "game(0, 4, 4, false)", x.game(0, 4, 4, false), 5);
        c.goes(x, "game(0, 4, 4, true)", x.game(0, 4, 4, true), -13);
    }

    static void promise33NoSuchQuarrelAheadOfNumbers(Checks c) {
        GraftQuarrel x = SeasonBoundaries.one(0, 10, 10);
        c.refused(x, "game(1, 0, 0, true)", x.game(1, 0, 0, true), -100, 1);
        c.refused(x, "game(-1, 0, 0, false)", x.game(-1, 0, 0, false), -100, 1);
        c.refused(x, "game(1, 5, 0, true)", x.game(1, 5, 0, true), -100, 1);
        GraftQuarrel y = new GraftQuarrel();
        c.refused(y, "game(0, 5, 5, true) without a VALLEY", y.game(0, 5, 5, true), -100, 1);
    }

    static void promise33OneThatDoesNotStand(Checks c) {
        GraftQuarrel x = SeasonBoundaries.grafted(0, 30);
        c.refused(x, "game(0, 0, 0, true)", x.game(0, 0, 0, true), -100, 1);
        c.refused(x, "game(0, 5, 0, false)", x.game(0, 5, 0, false), -100, 1);
        c.goes(x, "game(1, 0, 0, false)", x.game(1, 0, 0, false), 0);
    }

    static void promise33JustBears(Checks c) {
        GraftQuarrel x = SeasonBoundaries.one(0, 10, 9);
        c.goes(x, "the feeder, 9", x.game(0, 0, 0, false), 0);
        c.goes(x, "the guard, 9", x.game(0, 0, 0, true), 0);
        c.goes(x, "the feeder, 10", x.game(0, 1, 0, false), 8);
        c.goes(x, "the guard, 10", x.game(0, 1, 0, true), -9);
        c.goes(x, "the feeder, 10 by both", x.game(0, 3, 2, false), 6);
        c.goes(x, "the guard, 10 by both", x.game(0, 3, 2, true), -11);
        c.goes(x, "the feeder, 9 by both", x.game(0, 3, 3, false), -3);
        c.goes(x, "the guard, 9 by both", x.game(0, 3, 3, true), -3);
    }

    static void promise33NoVigourToCut(Checks c) {
        GraftQuarrel x = SeasonBoundaries.one(0, 4, 0);
        c.goes(x, "the guard loses what he cut", x.game(0, 0, 4, true), -4);
        c.goes(x, "the feeder has nothing", x.game(0, 0, 4, false), 0);
        c.goes(x, "it is fed, then cut", x.game(0, 4, 1, false), -4);
        c.goes(x, "it is fed alone", x.game(0, 4, 0, false), 5);
    }

    static void promise33AsIfNoDeedWasTold(Checks c) {
        GraftQuarrel x = SeasonBoundaries.one(0, 10, 9, "deed p season 0 feeds 9");
        c.goes(x, "game(0, 0, 0, false)", x.game(0, 0, 0, false), 0);
    }

    static void promise33AsIfNoWinterWas(Checks c) {
        GraftQuarrel x = SeasonBoundaries.one(9, 10, 0);
        Checks.pass(x, 3);
        x.nourish(0, 9);
        x.nourish(0, 1);
        c.goes(x, "game(0, 0, 0, false)", x.game(0, 0, 0, false), 9);
    }

    // ---- promises 34 and 35

    private static void rests(Checks c, int vigour, int due) {
        GraftQuarrel x = SeasonBoundaries.one(0, 20, vigour);
        c.goes(x, "rests by vigour " + vigour, x.rests(0), due);
    }

    private static void rest(Checks c, int vigour, int due) {
        GraftQuarrel x = SeasonBoundaries.one(0, 20, vigour);
        c.goes(x, "rest by vigour " + vigour, x.rest(0), due);
    }

    static void promise34NoSuchQuarrel(Checks c) {
        GraftQuarrel x = SeasonBoundaries.one(0, 20, 1);
        c.refused(x, "rests(1)", x.rests(1), -1, 1);
        c.refused(x, "rests(-1)", x.rests(-1), -1, 1);
        GraftQuarrel y = new GraftQuarrel();
        c.refused(y, "rests(0) without a VALLEY", y.rests(0), -1, 1);
    }

    static void promise34OneThatDoesNotStand(Checks c) {
        GraftQuarrel x = SeasonBoundaries.grafted(0, 30);
        c.refused(x, "rests(0)", x.rests(0), -1, 1);
        c.goes(x, "rests(1)", x.rests(1), 1);
    }

    static void promise34FourCannotFeedItToItsFruit(Checks c) {
        rests(c, 0, 1);
        rests(c, 15, 1);
        rests(c, 16, 0);
    }

    static void promise34FourCannotKeepItsFruit(Checks c) {
        rests(c, 23, 0);
        rests(c, 24, 1);
        rests(c, 30, 1);
    }

    static void promise34NoneWhereBothCan(Checks c) {
        for (int vigour = 16; vigour <= 23; vigour++) {
            rests(c, vigour, 0);
        }
    }

    static void promise35NoSuchQuarrel(Checks c) {
        GraftQuarrel x = SeasonBoundaries.one(0, 20, 1);
        c.refused(x, "rest(1)", x.rest(1), -1, 1);
        c.refused(x, "rest(-1)", x.rest(-1), -1, 1);
        GraftQuarrel y = new GraftQuarrel();
        c.refused(y, "rest(0) without a VALLEY", y.rest(0), -1, 1);
    }

    static void promise35OneThatDoesNotStand(Checks c) {
        GraftQuarrel x = SeasonBoundaries.grafted(0, 30);
        c.refused(x, "rest(0)", x.rest(0), -1, 1);
        c.goes(x, "rest(1)", x.rest(1), 0);
    }

    static void promise35NeitherDoesAnything(Checks c) {
        rest(c, 0, 0);
        rest(c, 15, 0);
        rest(c, 24, 0);
        rest(c, 30, 0);
    }

    static void promise35ThereIsNone(Checks c) {
        for (int vigour = 16; vigour <= 23; vigour++) {
            rest(c, vigour, -2);
        }
    }
}
