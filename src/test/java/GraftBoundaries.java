/** Boundary cases of promises 21 to 27: what can be grafted, LEFT, SUREST. */
final class GraftBoundaries {
    private static final int[] FAR = {-1, 25, Integer.MIN_VALUE, Integer.MAX_VALUE};

    private GraftBoundaries() {
    }

    /** p of a and b, q of c and d: land and word, a law each way. */
    static GraftQuarrel two(int bears, int p, int q, String... more) {
        String[] lines = {"quarrel p land of a b vigour " + p, "quarrel q word of c d vigour " + q,
            "law land on word odds 40", "law word on land odds 70"};
        return Checks.six(0, bears, GraftsTest.with(lines, more));
    }

    // ---- promise 21

    static void promise21NoSuchQuarrel(Checks c) {
        GraftQuarrel x = two(4, 1, 1);
        for (int q : new int[] {-1, 2, Integer.MIN_VALUE, Integer.MAX_VALUE}) {
            c.refused(x, "odds(" + q + ", 0)", x.odds(q, 0), -1, 1);
            c.refused(x, "odds(0, " + q + ")", x.odds(0, q), -1, 1);
        }
        c.goes(x, "odds(0, 1)", x.odds(0, 1), 40);
        c.goes(x, "odds(1, 0)", x.odds(1, 0), 70);
        GraftQuarrel y = new GraftQuarrel();
        c.refused(y, "odds(0, 0) without a VALLEY", y.odds(0, 0), -1, 1);
    }

    static void promise21OneOnItself(Checks c) {
        GraftQuarrel x = two(4, 1, 1, "law land on land odds 100");
        c.goes(x, "odds(0, 0)", x.odds(0, 0), 0);
    }

    static void promise21TheLeastAndTheGreatestOdds(Checks c) {
        GraftQuarrel x = Checks.six(0, 4, "quarrel p land of a b vigour 0", "quarrel q word of c d vigour 0",
                "law land on word odds 1", "law word on land odds 100");
        c.goes(x, "odds(0, 1)", x.odds(0, 1), 1);
        c.goes(x, "odds(1, 0)", x.odds(1, 0), 100);
    }

    static void promise21NoLaw(Checks c) {
        GraftQuarrel x = Checks.six(0, 4, "quarrel p land of a b vigour 1", "quarrel q word of c d vigour 1",
                "law word on land odds 9", "law land on land odds 9", "law word on word odds 9");
        c.goes(x, "the other way alone", x.odds(0, 1), 0);
        c.goes(x, "this way", x.odds(1, 0), 9);
    }

    static void promise21NeitherPotted(Checks c) {
        GraftQuarrel x = two(4, 1, 1, "pot p");
        c.goes(x, "a potted scion", x.odds(0, 1), 0);
        c.goes(x, "a potted stock", x.odds(1, 0), 0);
    }

    static void promise21BothStanding(Checks c) {
        GraftQuarrel x = Checks.six(0, 4, "quarrel p land of a b vigour 1", "quarrel q land of c d vigour 1",
                "quarrel r land of e f vigour 1", "law land on land odds 9");
        c.is("graft", x.graft(0, 1), 1);
        c.goes(x, "a scion that doesn't stand", x.odds(0, 2), 0);
        c.goes(x, "a stock that doesn't stand", x.odds(2, 0), 0);
        c.goes(x, "two that stand", x.odds(2, 1), 9);
    }

    static void promise21NoFamilyInBoth(Checks c) {
        GraftQuarrel x = Checks.six(0, 4, "quarrel p land of a b vigour 1", "quarrel q word of b c vigour 1",
                "quarrel r word of c d vigour 1", "law land on word odds 5");
        c.goes(x, "one in both", x.odds(0, 1), 0);
        c.goes(x, "none in both", x.odds(0, 2), 5);
    }

    static void promise21FamiliesOfGraftedOnesToo(Checks c) {
        GraftQuarrel x = Checks.six(0, 4, "quarrel p land of a b vigour 1", "quarrel q word of c d vigour 1",
                "quarrel r debt of b e vigour 1", "law land on word odds 5", "law debt on word odds 6");
        c.goes(x, "ahead of a graft", x.odds(2, 1), 6);
        x.graft(0, 1);
        c.goes(x, "behind it", x.odds(2, 1), 0);
    }

    static void promise21TheGreatestOfLaws(Checks c) {
        GraftQuarrel x = NowBoundaries.chain();
        x.graft(0, 1);
        c.goes(x, "land on love, word on love", x.odds(1, 2), 90);
        c.goes(x, "love on land, none on word", x.odds(2, 1), 20);
    }

    static void promise21VigourDoesNotMatter(Checks c) {
        GraftQuarrel x = two(4, 0, 0);
        c.goes(x, "odds(0, 1)", x.odds(0, 1), 40);
    }

    // ---- promise 22

    static void promise22NumbersOfSeasons(Checks c) {
        GraftQuarrel x = two(4, 4, 4);
        for (int n : FAR) {
            c.refused(x, "grafted(0, 1, " + n + ")", x.grafted(0, 1, n), -1, 2);
        }
        c.goes(x, "in none", x.grafted(0, 1, 0), 0);
        c.goes(x, "in one", x.grafted(0, 1, 1), 1);
        c.goes(x, "in twenty-four", x.grafted(0, 1, 24), 1);
    }

    static void promise22NoSuchAheadOfTheNumber(Checks c) {
        GraftQuarrel x = two(4, 4, 4);
        c.refused(x, "grafted(2, 1, 25)", x.grafted(2, 1, 25), -1, 1);
        c.refused(x, "grafted(0, 2, 25)", x.grafted(0, 2, 25), -1, 1);
        c.refused(x, "grafted(-1, 1, 0)", x.grafted(-1, 1, 0), -1, 1);
        c.refused(x, "grafted(0, -1, 0)", x.grafted(0, -1, 0), -1, 1);
        GraftQuarrel y = new GraftQuarrel();
        c.refused(y, "grafted(0, 1, 25) without a VALLEY", y.grafted(0, 1, 25), -1, 1);
    }

    static void promise22TheNumberAheadOfNotSo(Checks c) {
        GraftQuarrel x = two(4, 4, 4);
        c.refused(x, "grafted(0, 0, 25)", x.grafted(0, 0, 25), -1, 2);
        c.refused(x, "grafted(0, 0, -1)", x.grafted(0, 0, -1), -1, 2);
        c.refused(x, "grafted(0, 0, 24)", x.grafted(0, 0, 24), -1, 5);
        c.refused(x, "grafted(0, 0, 0)", x.grafted(0, 0, 0), -1, 5);
    }

    static void promise22HalfDownwards(Checks c) {
        GraftQuarrel one = two(4, 1, 3);
        c.goes(one, "half of 1 is none", one.grafted(0, 1, 1), 0);
        GraftQuarrel two = two(4, 2, 3);
        c.goes(two, "half of 2 is one", two.grafted(0, 1, 1), 1);
        GraftQuarrel three = two(5, 3, 3);
        c.goes(three, "half of 3 is one", three.grafted(0, 1, 1), 0);
    }

    static void promise22NothingIsGrafted(Checks c) {
        GraftQuarrel x = two(4, 4, 4);
        x.grafted(0, 1, 24);
        c.is("stand()", x.stand(), 2);
        c.is("acts", x.size(10), 0);
    }

    static void promise22NotThoseThatFellAlready(Checks c) {
        GraftQuarrel x = two(4, 8, 4);
        x.season();
        c.goes(x, "grafted(1, 0, 24)", x.grafted(1, 0, 24), 1);
    }

    // ---- promise 23

    static void promise23NumbersOfSeasons(Checks c) {
        GraftQuarrel x = two(4, 4, 4);
        for (int n : FAR) {
            c.refused(x, "bestGraft(" + n + ")", x.bestGraft(n), -1, 2);
        }
        c.goes(x, "in none", x.bestGraft(0), -2);
        c.goes(x, "in one", x.bestGraft(1), 1);
        c.goes(x, "in twenty-four", x.bestGraft(24), 1);
    }

    static void promise23NoValley(Checks c) {
        GraftQuarrel x = new GraftQuarrel();
        c.refused(x, "bestGraft(0)", x.bestGraft(0), -1, 1);
        c.refused(x, "bestGraft(25)", x.bestGraft(25), -1, 1);
    }

    static void promise23AsManyAsWithoutAnyIsNotFewer(Checks c) {
        // Without any one falls; p on q: 4, one; q on p: 2, none.
        GraftQuarrel x = two(4, 0, 4, "pot q");
        c.goes(x, "none can be", x.bestGraft(24), -2);
        GraftQuarrel y = Checks.six(0, 4, "quarrel p land of a b vigour 0", "quarrel q word of c d vigour 4",
                "law land on word odds 1");
        c.goes(y, "one that is like", y.bestGraft(24), -2);
        GraftQuarrel z = two(4, 0, 4);
        c.goes(z, "one that is fewer", z.bestGraft(24), 10);
    }

    static void promise23MoreThanWithoutAny(Checks c) {
        GraftQuarrel x = two(4, 3, 3);
        c.goes(x, "each graft bears one", x.bestGraft(24), -2);
    }

    static void promise23OfLikeOnesTheFirst(Checks c) {
        // r bears with none: each graft of two that bear is one fruit fewer.
        GraftQuarrel x = Checks.six(0, 4, "quarrel p land of a b vigour 0", "quarrel q land of c d vigour 5",
                "quarrel r land of e f vigour 5", "law land on land odds 1");
        // p on q, p on r: two; q on p: 2 and r: one; q on r: 7: one; r on p, r on q: one.
        c.goes(x, "by the scion, then the stock", x.bestGraft(24), 10);
        x.nourish(0, 2);
        // q on p: 4, 5: two; q on r: 7, 2: one.
        c.goes(x, "a later stock", x.bestGraft(24), 12);
    }

    static void promise23TheSixth(Checks c) {
        // Only c f bears: on a b it is 2 of 4, as on d e; on the others is no graft.
        GraftQuarrel x = NowBoundaries.sixQuarrels(4, 0, 0, 0, 0, 0, 4);
        c.goes(x, "bestGraft(24)", x.bestGraft(24), 50);
        x.nourish(0, 2);
        c.goes(x, "a later stock", x.bestGraft(24), 53);
    }

    // ---- promise 24

    static void promise24NoValley(Checks c) {
        GraftQuarrel x = new GraftQuarrel();
        c.refused(x, "left()", x.left(), -1, 1);
    }

    static void promise24NoGraftCanBe(Checks c) {
        GraftQuarrel x = Checks.six(0, 4, "quarrel p land of a b vigour 1", "quarrel q land of a b vigour 1",
                "law land on land odds 100");
        c.goes(x, "left()", x.left(), 2);
        GraftQuarrel y = SeasonBoundaries.one(0, 4, 1);
        c.goes(y, "left() of one", y.left(), 1);
    }

    static void promise24WhetherTheyTakeAside(Checks c) {
        GraftQuarrel x = Checks.six(0, 4, "quarrel p land of a b vigour 1", "quarrel q land of c d vigour 1",
                "quarrel r land of e f vigour 1", "law land on land odds 1");
        c.goes(x, "left()", x.left(), 1);
    }

    static void promise24PottedOnesStandToo(Checks c) {
        GraftQuarrel x = Checks.six(0, 4, "quarrel p land of a b vigour 1", "quarrel q land of c d vigour 1",
                "quarrel r land of e f vigour 1", "law land on land odds 1", "pot q");
        c.goes(x, "left()", x.left(), 2);
    }

    static void promise24FromNow(Checks c) {
        GraftQuarrel x = Checks.six(0, 4, "quarrel p land of a b vigour 1", "quarrel q land of c d vigour 1",
                "quarrel r love of a c vigour 1", "law land on land odds 1");
        c.goes(x, "ahead of a graft", x.left(), 2);
        x.graft(0, 1);
        c.goes(x, "behind it", x.left(), 2);
    }

    static void promise24ByKindsThatAreGrafted(Checks c) {
        // No law is of land on love, nor of love on land: the word that is on one of them joins them.
        GraftQuarrel x = Checks.six(0, 4, "quarrel p land of a b vigour 1", "quarrel q word of c d vigour 1",
                "quarrel r love of e f vigour 1", "law word on land odds 1", "law word on love odds 1");
        c.goes(x, "left()", x.left(), 1);
        GraftQuarrel y = Checks.six(0, 4, "quarrel p word of a b vigour 1", "quarrel q land of c d vigour 1",
                "quarrel r love of e f vigour 1", "law word on land odds 1", "law word on love odds 1");
        c.goes(y, "left() when the first is the word", y.left(), 1);
    }

    static void promise24AFirstGraftThatBarsOthers(Checks c) {
        // 0 on 1 has a family of each of the others, and these have one in both: 3 would be left.
        GraftQuarrel x = Checks.six(0, 4, "quarrel p land of a b vigour 1", "quarrel q land of c d vigour 1",
                "quarrel r land of c e vigour 1", "quarrel s land of a e vigour 1", "law land on land odds 1");
        c.goes(x, "left()", x.left(), 2);
        x.graft(0, 1);
        c.goes(x, "left() behind it", x.left(), 3);
    }

    // ---- promise 25

    static void promise25NoValley(Checks c) {
        GraftQuarrel x = new GraftQuarrel();
        c.refused(x, "surest(false)", x.surest(false), -1, 1);
        c.refused(x, "surest(true)", x.surest(true), -1, 1);
    }

    static void promise25WithoutGrafts(Checks c) {
        GraftQuarrel x = SeasonBoundaries.one(0, 4, 1);
        c.goes(x, "the upper", x.surest(false), 1);
        c.goes(x, "the lower", x.surest(true), 1);
    }

    private static GraftQuarrel odds(int odds) {
        return Checks.six(0, 4, "quarrel p land of a b vigour 1", "quarrel q word of c d vigour 1",
                "law land on word odds " + odds);
    }

    static void promise25LowestTerms(Checks c) {
        int[][] due = {{1, 1, 100}, {50, 1, 2}, {99, 99, 100}, {100, 1, 1}, {75, 3, 4}};
        for (int[] row : due) {
            GraftQuarrel x = odds(row[0]);
            c.goes(x, "the upper of " + row[0], x.surest(false), row[1]);
            c.goes(x, "the lower of " + row[0], x.surest(true), row[2]);
        }
    }

    static void promise25AsManyGraftsAsCanBe(Checks c) {
        // Two times three that have all six families: four grafts.
        int[][] due = {{1, 1}, {99, 96059601}};
        for (int[] row : due) {
            GraftQuarrel x = Checks.six(0, 4, "quarrel k land of a b vigour 1", "quarrel l land of c d vigour 1",
                    "quarrel m land of e f vigour 1", "quarrel n land of a b vigour 1",
                    "quarrel o land of c d vigour 1", "quarrel p land of e f vigour 1",
                    "law land on land odds " + row[0]);
            c.goes(x, "left()", x.left(), 2);
            c.goes(x, "the upper", x.surest(false), row[1]);
            c.goes(x, "the lower", x.surest(true), 100000000);
        }
    }

    static void promise25FewestAheadOfLikeliest(Checks c) {
        // 0 on 1 is sure, and bars the others; 0 on 2 and 1 on 3 leave one fewer.
        GraftQuarrel x = Checks.six(0, 4, "quarrel p land of a b vigour 1", "quarrel q word of c d vigour 1",
                "quarrel r love of c e vigour 1", "quarrel s debt of a e vigour 1", "law land on word odds 100",
                "law land on love odds 1", "law word on debt odds 1");
        c.goes(x, "left()", x.left(), 2);
        c.goes(x, "the upper", x.surest(false), 1);
        c.goes(x, "the lower", x.surest(true), 10000);
        c.goes(x, "the first", x.surestAt(0), 2);
        c.goes(x, "the second", x.surestAt(1), 13);
    }

    // ---- promise 26

    static void promise26NoValley(Checks c) {
        GraftQuarrel x = new GraftQuarrel();
        c.refused(x, "takes(false)", x.takes(false), -1, 1);
        c.refused(x, "takes(true)", x.takes(true), -1, 1);
    }

    static void promise26WithoutGrafts(Checks c) {
        GraftQuarrel x = SeasonBoundaries.one(0, 4, 1);
        c.goes(x, "the upper", x.takes(false), 0);
        c.goes(x, "the lower", x.takes(true), 1);
    }

    static void promise26LowestTerms(Checks c) {
        int[][] due = {{1, 1, 100}, {50, 1, 2}, {99, 99, 100}, {100, 1, 1}};
        for (int[] row : due) {
            GraftQuarrel x = odds(row[0]);
            c.goes(x, "the upper of " + row[0], x.takes(false), row[1]);
            c.goes(x, "the lower of " + row[0], x.takes(true), row[2]);
        }
    }

    static void promise26MoreThanOne(Checks c) {
        GraftQuarrel x = NowBoundaries.chain();
        c.goes(x, "the upper of 160 in 100", x.takes(false), 8);
        c.goes(x, "the lower", x.takes(true), 5);
    }

    static void promise26FromNow(Checks c) {
        GraftQuarrel x = NowBoundaries.chain();
        c.goes(x, "of two grafts", x.takes(false), 8);
        x.graft(2, 0);
        c.goes(x, "of the one that is left, the upper", x.takes(false), 7);
        c.goes(x, "the lower", x.takes(true), 10);
        x.graft(1, 0);
        c.goes(x, "of none", x.takes(false), 0);
        c.goes(x, "the lower", x.takes(true), 1);
    }

    // ---- promise 27

    static void promise27NoSuchGraft(Checks c) {
        GraftQuarrel x = NowBoundaries.chain();
        for (int i : new int[] {-1, 2, Integer.MIN_VALUE, Integer.MAX_VALUE}) {
            c.refused(x, "surestAt(" + i + ")", x.surestAt(i), -1, 1);
        }
        c.goes(x, "surestAt(0)", x.surestAt(0), 2);
        c.goes(x, "surestAt(1)", x.surestAt(1), 12);
    }

    static void promise27NoValley(Checks c) {
        GraftQuarrel x = new GraftQuarrel();
        c.refused(x, "surestAt(0)", x.surestAt(0), -1, 1);
    }

    static void promise27WithoutGrafts(Checks c) {
        GraftQuarrel x = SeasonBoundaries.one(0, 4, 1);
        c.refused(x, "surestAt(0)", x.surestAt(0), -1, 1);
    }

    static void promise27OfLikeOnesTheFirst(Checks c) {
        GraftQuarrel x = Checks.six(0, 4, "quarrel p land of a b vigour 1", "quarrel q land of c d vigour 1",
                "quarrel r land of e f vigour 1", "law land on land odds 50");
        c.goes(x, "0 on 1 ahead of 0 on 2", x.surestAt(0), 1);
        c.goes(x, "1 on 2 ahead of 2 on 1", x.surestAt(1), 12);
    }

    static void promise27TheFirstQuarrelBehindOthers(Checks c) {
        // 1 on 2, then 2 on 0; or 2 on 0, then 1 on 0: like ones.
        GraftQuarrel x = Checks.six(0, 4, "quarrel p land of a b vigour 1", "quarrel q word of c d vigour 1",
                "quarrel r love of e f vigour 1", "law word on love odds 50", "law love on land odds 50");
        c.goes(x, "the first", x.surestAt(0), 12);
        c.goes(x, "the second", x.surestAt(1), 20);
    }

    static void promise27TheLikeliestAheadOfTheFirst(Checks c) {
        GraftQuarrel x = two(4, 1, 1);
        c.goes(x, "1 on 0 by 70, not 0 on 1 by 40", x.surestAt(0), 10);
    }
}
