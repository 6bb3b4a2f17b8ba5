/** Boundary cases of promises 6 to 11: what is NOW. */
final class NowBoundaries {
    private static final int[] FAR = {-1, Integer.MIN_VALUE, Integer.MAX_VALUE};

    private NowBoundaries() {
    }

    /** Three in a chain of laws, families two by two: p 9, q 7, r 5. */
    static GraftQuarrel chain(String... more) {
        return Checks.of(GraftsTest.with(NowTest.CHAIN, more));
    }

    // ---- promise 6

    static void promise06NoSuchQuarrel(Checks c) {
        GraftQuarrel x = chain();
        for (int q : FAR) {
            c.refused(x, "quarrel(" + q + ", 0)", x.quarrel(q, 0), -1, 1);
        }
        c.refused(x, "quarrel(3, 0)", x.quarrel(3, 0), -1, 1);
        c.goes(x, "quarrel(2, 0)", x.quarrel(2, 0), 2);
        c.goes(x, "quarrel(0, 0)", x.quarrel(0, 0), 0);
    }

    static void promise06NoSuchFact(Checks c) {
        GraftQuarrel x = chain();
        for (int what : FAR) {
            c.refused(x, "quarrel(0, " + what + ")", x.quarrel(0, what), -1, 1);
        }
        c.refused(x, "quarrel(0, 7)", x.quarrel(0, 7), -1, 1);
        c.goes(x, "quarrel(0, 6)", x.quarrel(0, 6), 0);
    }

    static void promise06NoValley(Checks c) {
        GraftQuarrel x = new GraftQuarrel();
        c.refused(x, "quarrel(0, 1)", x.quarrel(0, 1), -1, 1);
    }

    static void promise06KindByItsNumber(Checks c) {
        GraftQuarrel x = Checks.six(0, 4, "quarrel p debt of a b vigour 0", "quarrel q love of a b vigour 0",
                "quarrel r word of a b vigour 0", "quarrel s land of a b vigour 0");
        for (int q = 0; q < 4; q++) {
            c.goes(x, "KIND", x.quarrel(q, 0), 3 - q);
            c.goes(x, "KINDS", x.quarrel(q, 3), 1 << 3 - q);
        }
    }

    static void promise06KindAsToldOfAGraftedOne(Checks c) {
        GraftQuarrel x = chain();
        x.graft(0, 1);
        c.goes(x, "of the scion", x.quarrel(0, 0), 0);
        c.goes(x, "of the stock", x.quarrel(1, 0), 1);
    }

    static void promise06VigourOfAGraftedOne(Checks c) {
        GraftQuarrel x = chain();
        x.graft(0, 1);
        c.goes(x, "of the scion", x.quarrel(0, 1), 0);
        c.goes(x, "of the stock", x.quarrel(1, 1), 11);
    }

    static void promise06OneThatStandsIsOnNone(Checks c) {
        GraftQuarrel x = chain();
        x.graft(0, 1);
        c.goes(x, "of the stock", x.quarrel(1, 2), -2);
        c.goes(x, "of one by itself", x.quarrel(2, 2), -2);
    }

    static void promise06OnTheOneThatStands(Checks c) {
        GraftQuarrel x = chain();
        x.graft(0, 1);
        c.goes(x, "of the scion", x.quarrel(0, 2), 1);
        x.graft(1, 2);
        c.goes(x, "of the first scion", x.quarrel(0, 2), 2);
        c.goes(x, "of the second", x.quarrel(1, 2), 2);
    }

    static void promise06OnTheFirstOne(Checks c) {
        GraftQuarrel x = chain();
        x.graft(2, 0);
        c.goes(x, "on the one with number 0", x.quarrel(2, 2), 0);
    }

    static void promise06KindsOfAGraftedOne(Checks c) {
        GraftQuarrel x = chain();
        x.graft(0, 1);
        c.goes(x, "of the scion", x.quarrel(0, 3), 0);
        c.goes(x, "of the stock", x.quarrel(1, 3), 3);
        x.graft(1, 2);
        c.goes(x, "of all", x.quarrel(2, 3), 7);
    }

    static void promise06KindsThatAreLikeAreOne(Checks c) {
        GraftQuarrel x = Checks.six(0, 4, "quarrel p debt of a b vigour 0", "quarrel q debt of c d vigour 0",
                "law debt on debt odds 1");
        x.graft(1, 0);
        c.goes(x, "KINDS", x.quarrel(0, 3), 8);
    }

    static void promise06Potted(Checks c) {
        GraftQuarrel x = chain("pot r");
        c.goes(x, "of one that isn't", x.quarrel(0, 4), 0);
        c.goes(x, "of one that is", x.quarrel(2, 4), 1);
    }

    static void promise06FruitsSoFar(Checks c) {
        GraftQuarrel x = Checks.six(0, 4, "quarrel p land of a b vigour 9", "quarrel q word of c d vigour 3",
                "law land on word odds 1");
        int[] due = {0, 1, 2, 2};
        for (int fell : due) {
            c.goes(x, "of the one", x.quarrel(0, 5), fell);
            c.goes(x, "of the other", x.quarrel(1, 5), 0);
            x.season();
        }
    }

    static void promise06FruitsOfAGraftedOneStayItsOwn(Checks c) {
        GraftQuarrel x = Checks.six(0, 4, "quarrel p land of a b vigour 9", "quarrel q word of c d vigour 3",
                "law land on word odds 1");
        x.season();
        c.is("graft", x.graft(0, 1), 5);
        x.season();
        c.goes(x, "of the scion", x.quarrel(0, 5), 1);
        c.goes(x, "of the stock", x.quarrel(1, 5), 1);
    }

    static void promise06SuckersSoFar(Checks c) {
        GraftQuarrel x = Checks.six(0, 4, "quarrel p land of a b vigour 3", "quarrel q land of c d vigour 2");
        Checks.pass(x, 11);
        c.goes(x, "behind eleven", x.quarrel(0, 6), 0);
        x.season();
        c.goes(x, "behind twelve", x.quarrel(0, 6), 1);
        c.goes(x, "of one with less than 3", x.quarrel(1, 6), 0);
        Checks.pass(x, 11);
        c.goes(x, "behind twenty-three", x.quarrel(0, 6), 1);
        x.season();
        c.goes(x, "behind twenty-four", x.quarrel(0, 6), 2);
    }

    // ---- promise 7

    static void promise07NoSuchQuarrel(Checks c) {
        GraftQuarrel x = chain();
        for (int q : FAR) {
            c.refused(x, "parties(" + q + ")", x.parties(q), -1, 1);
        }
        c.refused(x, "parties(3)", x.parties(3), -1, 1);
        c.goes(x, "parties(2)", x.parties(2), 48);
    }

    static void promise07NoValley(Checks c) {
        GraftQuarrel x = new GraftQuarrel();
        c.refused(x, "parties(0)", x.parties(0), -1, 1);
    }

    static void promise07OfOneThatDoesNotStand(Checks c) {
        GraftQuarrel x = chain();
        x.graft(0, 1);
        c.goes(x, "of the scion", x.parties(0), 0);
        c.goes(x, "of the stock", x.parties(1), 15);
    }

    static void promise07OfThoseGraftedOnGraftedOnes(Checks c) {
        GraftQuarrel x = chain();
        x.graft(0, 1);
        x.graft(1, 2);
        c.goes(x, "of all", x.parties(2), 63);
        c.goes(x, "of the second", x.parties(1), 0);
    }

    static void promise07BitsByFamiliesAsTold(Checks c) {
        GraftQuarrel x = Checks.six(0, 4, "quarrel p land of f a vigour 0", "quarrel q land of b a vigour 0");
        c.goes(x, "of the first and the last", x.parties(0), 33);
        c.goes(x, "of the first two", x.parties(1), 3);
    }

    // ---- promise 8

    static void promise08NoSuchFamily(Checks c) {
        GraftQuarrel x = Checks.of(NowTest.BASE);
        for (int f : FAR) {
            c.refused(x, "bound(" + f + ")", x.bound(f), -1, 1);
        }
        c.refused(x, "bound(5)", x.bound(5), -1, 1);
        c.goes(x, "bound(4)", x.bound(4), 12);
    }

    static void promise08NoValley(Checks c) {
        GraftQuarrel x = new GraftQuarrel();
        c.refused(x, "bound(0)", x.bound(0), -1, 1);
    }

    static void promise08BoundInNone(Checks c) {
        GraftQuarrel x = Checks.six(0, 4, "quarrel p land of a b vigour 5");
        c.goes(x, "bound(2)", x.bound(2), 0);
        c.goes(x, "bound(0)", x.bound(0), 1);
    }

    static void promise08BoundInAll(Checks c) {
        GraftQuarrel x = Checks.ofText(TextBoundaries.AB
                + TextBoundaries.times(6, "quarrel # love of a b vigour 1"));
        c.goes(x, "bound(1)", x.bound(1), 63);
    }

    static void promise08BoundWithoutVigour(Checks c) {
        GraftQuarrel x = Checks.six(0, 4, "quarrel p land of a b vigour 0");
        c.goes(x, "bound(0)", x.bound(0), 1);
    }

    static void promise08OnlyThoseThatStand(Checks c) {
        GraftQuarrel x = chain();
        x.graft(0, 1);
        c.goes(x, "bound(0)", x.bound(0), 2);
        c.goes(x, "bound(2)", x.bound(2), 2);
        c.goes(x, "bound(4)", x.bound(4), 4);
    }

    // ---- promise 9

    static void promise09NoValley(Checks c) {
        GraftQuarrel x = new GraftQuarrel();
        c.refused(x, "peace()", x.peace(), -1, 1);
    }

    static void promise09VigourAboveNone(Checks c) {
        GraftQuarrel x = Checks.six(0, 4, "quarrel p land of a b vigour 0", "quarrel q land of c d vigour 1");
        c.goes(x, "peace()", x.peace(), 1 + 2 + 16 + 32);
        x.nourish(0, 1);
        c.goes(x, "peace() behind a feeding", x.peace(), 16 + 32);
        x.cut(0, 1);
        x.cut(1, 1);
        c.goes(x, "peace() behind cuts", x.peace(), 63);
    }

    static void promise09OneQuarrelIsEnough(Checks c) {
        GraftQuarrel x = Checks.six(0, 4, "quarrel p land of a b vigour 0", "quarrel q land of b c vigour 1");
        c.goes(x, "peace()", x.peace(), 1 + 8 + 16 + 32);
    }

    static void promise09SixQuarrels(Checks c) {
        GraftQuarrel x = sixQuarrels(30, 0, 0, 0, 0, 0, 1);
        c.goes(x, "peace()", x.peace(), 1 + 2 + 8 + 16);
    }

    /** Each of two families that are neighbours: a b, b c, c d, d e, e f, and c f. */
    static GraftQuarrel sixQuarrels(int bears, int... vigour) {
        String[] families = {"a b", "b c", "c d", "d e", "e f", "c f"};
        String[] lines = new String[7];
        for (int q = 0; q < 6; q++) {
            lines[q] = "quarrel " + (char) ('p' + q) + " land of " + families[q] + " vigour " + vigour[q];
        }
        lines[6] = "law land on land odds 1";
        return Checks.six(0, bears, lines);
    }

    static void promise09FamiliesOfNoQuarrel(Checks c) {
        GraftQuarrel x = Checks.six(0, 4, "quarrel p land of a b vigour 9");
        c.goes(x, "peace()", x.peace(), 4 + 8 + 16 + 32);
    }

    static void promise09NoneAtPeace(Checks c) {
        GraftQuarrel x = chain();
        c.goes(x, "peace()", x.peace(), 0);
    }

    static void promise09FamiliesOfAGraftedOne(Checks c) {
        GraftQuarrel x = Checks.six(0, 4, "quarrel p land of a b vigour 0", "quarrel q word of c d vigour 1",
                "law land on word odds 1", "law word on land odds 1");
        x.graft(0, 1);
        c.goes(x, "peace(), the stock has vigour", x.peace(), 16 + 32);
        x.undo();
        // Half of 1, downwards, is nothing: what the scion had is gone.
        c.is("graft", x.graft(1, 0), 0);
        c.goes(x, "peace(), the stock has none", x.peace(), 63);
    }

    // ---- promise 10

    static void promise10NoValley(Checks c) {
        GraftQuarrel x = new GraftQuarrel();
        c.refused(x, "stand()", x.stand(), -1, 1);
    }

    static void promise10FromAllToOne(Checks c) {
        GraftQuarrel x = chain();
        c.goes(x, "all", x.stand(), 3);
        x.graft(0, 1);
        c.goes(x, "one less", x.stand(), 2);
        x.graft(1, 2);
        c.goes(x, "one", x.stand(), 1);
    }

    static void promise10PottedAndWithoutVigour(Checks c) {
        GraftQuarrel x = Checks.six(0, 4, "quarrel p land of a b vigour 0", "quarrel q land of c d vigour 1", "pot q");
        c.goes(x, "stand()", x.stand(), 2);
    }

    // ---- promise 11

    static void promise11NoSuchFamily(Checks c) {
        GraftQuarrel x = Checks.of(NowTest.BASE);
        for (int f : FAR) {
            c.refused(x, "feud(" + f + ")", x.feud(f), -1, 1);
        }
        c.refused(x, "feud(5)", x.feud(5), -1, 1);
        c.goes(x, "feud(4)", x.feud(4), 31);
    }

    static void promise11NoValley(Checks c) {
        GraftQuarrel x = new GraftQuarrel();
        c.refused(x, "feud(0)", x.feud(0), -1, 1);
    }

    static void promise11ItselfAlone(Checks c) {
        GraftQuarrel x = Checks.six(0, 4, "quarrel p land of a b vigour 5");
        c.goes(x, "feud(5)", x.feud(5), 32);
        c.goes(x, "feud(0)", x.feud(0), 3);
    }

    static void promise11OneByOneThroughAll(Checks c) {
        // Told so that each round through the quarrels reaches one family more from f.
        GraftQuarrel x = Checks.six(0, 4, "quarrel p land of a b vigour 1", "quarrel q land of b c vigour 1",
                "quarrel r land of c d vigour 1", "quarrel s land of d e vigour 1", "quarrel t land of e f vigour 1");
        for (int f = 0; f < 6; f++) {
            c.goes(x, "feud(" + f + ")", x.feud(f), 63);
        }
    }

    static void promise11WithoutVigourToo(Checks c) {
        GraftQuarrel x = Checks.six(0, 4, "quarrel p land of a b vigour 0", "quarrel q land of b c vigour 0");
        c.goes(x, "feud(0)", x.feud(0), 7);
    }

    static void promise11ByPartiesOfAGraft(Checks c) {
        GraftQuarrel x = chain();
        c.goes(x, "feud(0)", x.feud(0), 3);
        x.graft(0, 1);
        c.goes(x, "feud(0) behind a graft", x.feud(0), 15);
        c.goes(x, "feud(4) behind it", x.feud(4), 48);
    }
}
