/** Promises 28 to 31: PRUNE and FEED. */
public final class PruneTest {
    private static final Checks C = new Checks("PruneTest");
    private static final String AB = ";family a people 1;family b people 1;";

    public static void main(String[] args) {
        prune();
        winter();
        cannot();
        much();
        grafted();
        pruneNumbers();
        feedFor();
        feedAgainst();
        C.end();
    }

    private static void cuts(GraftQuarrel x, int q, int coins, int... due) {
        int n = due.length;
        C.goes(x, "prune(" + q + ", " + n + ")", x.prune(q, n), coins);
        for (int i = 0; i < n; i++) {
            C.goes(x, "pruneAt(" + q + ", " + n + ", " + i + ")", x.pruneAt(q, n, i), due[i]);
        }
        C.refused(x, "pruneAt(" + q + ", n, n)", x.pruneAt(q, n, n), -1, 1);
        C.refused(x, "pruneAt(" + q + ", n, -1)", x.pruneAt(q, n, -1), -1, 1);
    }

    private static void prune() {
        GraftQuarrel x = Checks.ofText("valley winter 0 bears 10 coins 3 1 2 9" + AB
                + "quarrel p land of a b vigour 8;deed p season 1 feeds 4;deed p season 2 feeds 2");
        cuts(x, 0, 0);
        cuts(x, 0, 0, 0);
        cuts(x, 0, 3, 0, 3);
        cuts(x, 0, 5, 0, 5, 0);
        GraftQuarrel like = Checks.ofText("valley winter 0 bears 10 coins 1 1 1 1" + AB
                + "quarrel p land of a b vigour 1;deed p season 1 feeds 9;deed p season 2 feeds 9");
        // 1 must go ahead of season 1; what it feeds can't be cut before it is there.
        cuts(like, 0, 10, 1, 0, 9);
        GraftQuarrel first = Checks.ofText("valley winter 0 bears 10 coins 2 2 2 2" + AB
                + "quarrel p land of a b vigour 9;deed p season 3 feeds 5");
        cuts(first, 0, 10, 5, 0, 0, 0);
        C.is("nothing is cut by asking", first.quarrel(0, 1), 9);
        C.is("nothing is paid by asking", first.size(9), 0);
    }

    private static void winter() {
        // Winter takes 3 by itself: cutting ahead of it is worth as much only above 3.
        GraftQuarrel x = Checks.ofText("valley winter 3 bears 10 coins 1 1 1 1" + AB
                + "quarrel p land of a b vigour 4;quarrel q land of a b vigour 4;pot q;"
                + "deed p season 4 feeds 9;deed q season 4 feeds 9");
        cuts(x, 0, 1, 1, 0, 0, 0, 0);
        cuts(x, 1, 4, 4, 0, 0, 0, 0);
        // Vigour 2 is gone by winter; what comes by a deed in winter must be above it to stay.
        GraftQuarrel y = Checks.ofText("valley winter 5 bears 4 coins 1 1 1 1" + AB
                + "quarrel p land of a b vigour 0;deed p season 3 feeds 8;deed p season 4 feeds 2");
        cuts(y, 0, 0, 0, 0, 0, 0);
        cuts(y, 0, 2, 0, 0, 0, 0, 2);
        GraftQuarrel twice = Checks.ofText("valley winter 2 bears 4 coins 9 1 9 9" + AB
                + "quarrel p land of a b vigour 3;deed p season 1 feeds 2;deed p season 4 feeds 3");
        // 2 in summer are enough till winter, but would leave 1 behind it, and 4 in spring.
        cuts(twice, 0, 2, 0, 2, 0, 0);
        cuts(twice, 0, 3, 0, 3, 0, 0, 0);
    }

    private static void cannot() {
        GraftQuarrel x = Checks.ofText("valley winter 5 bears 4 coins 1 1 1 1" + AB
                + "quarrel p land of a b vigour 0;quarrel q land of a b vigour 0;pot q;"
                + "deed p season 2 feeds 2;deed p season 2 feeds 2;deed q season 3 feeds 9;deed q season 1 feeds 3");
        C.goes(x, "prune(0, 2)", x.prune(0, 2), 0);
        C.goes(x, "prune(0, 3)", x.prune(0, 3), -2);
        C.goes(x, "prune(0, 12)", x.prune(0, 12), -2);
        C.refused(x, "pruneAt(0, 3, 0)", x.pruneAt(0, 3, 0), -1, 6);
        C.refused(x, "pruneAt(0, 3, 3)", x.pruneAt(0, 3, 3), -1, 1);
        C.goes(x, "potted: no winter takes from it", x.prune(1, 4), -2);
        C.goes(x, "prune(1, 3)", x.prune(1, 3), 0);
    }

    private static void much() {
        GraftQuarrel x = Checks.ofText("valley winter 9 bears 30 coins 7 5 3 2" + AB
                + "quarrel p land of a b vigour 30;deed p season 8 feeds 9");
        for (int i = 0; i < 20; i++) {
            x.nourish(0, 9);
        }
        C.is("its vigour", x.quarrel(0, 1), 210);
        cuts(x, 0, 181 * 7, 181);
        for (int i = 0; i < 3; i++) {
            x.season();
        }
        // 120 in winter: 9 are taken, 29 may stay.
        C.is("its vigour", x.quarrel(0, 1), 120);
        cuts(x, 0, 82 * 2, 82);
    }

    private static void grafted() {
        GraftQuarrel x = Checks.of(GraftsTest.with(NowTest.CHAIN, "deed p season 1 feeds 3"));
        C.is("graft(0, 1)", x.graft(0, 1), 11);
        cuts(x, 1, 10, 5, 0);
        C.refused(x, "prune of one that doesn't stand", x.prune(0, 1), -1, 1);
        C.refused(x, "pruneAt of one that doesn't stand", x.pruneAt(0, 1, 0), -1, 1);
        C.refused(x, "feedFor of one that doesn't stand", x.feedFor(0, 0), -1, 1);
        C.refused(x, "feedAgainst of one that doesn't stand", x.feedAgainst(0, 0, 0), -1, 1);
        C.goes(x, "feedFor(1, 1)", x.feedFor(1, 1), 6);
        C.goes(x, "feedAgainst(1, 1, 2)", x.feedAgainst(1, 1, 2), 0);
    }

    private static void pruneNumbers() {
        GraftQuarrel x = Checks.of(NowTest.BASE);
        for (int n : new int[] {-1, 13, Integer.MAX_VALUE, Integer.MIN_VALUE}) {
            C.refused(x, "prune(0, n)", x.prune(0, n), -1, 2);
            C.refused(x, "prune(4, n)", x.prune(4, n), -1, 1);
            C.refused(x, "pruneAt(0, n, 0)", x.pruneAt(0, n, 0), -1, 2);
            C.refused(x, "pruneAt(-1, n, 0)", x.pruneAt(-1, n, 0), -1, 1);
            C.refused(x, "pruneAt(0, 2, n)", x.pruneAt(0, 2, n), -1, 1);
        }
        C.goes(x, "prune(0, 12)", x.prune(0, 12), 6);
        C.goes(x, "pruneAt(0, 12, 11)", x.pruneAt(0, 12, 11), 0);
    }

    private static void feedFor() {
        GraftQuarrel x = Checks.ofText("valley winter 0 bears 10 coins 1 1 1 1" + AB
                + "quarrel p land of a b vigour 9;deed p season 1 feeds 1;deed p season 3 feeds 4");
        C.goes(x, "feedFor(0, 0)", x.feedFor(0, 0), 1);
        C.goes(x, "feedFor(0, 1)", x.feedFor(0, 1), 0);
        // Fruits in 0 and 1 and 2: 30 are due, 10 are there.
        C.goes(x, "feedFor(0, 2)", x.feedFor(0, 2), 20);
        // A fruit in 0 in place of the one in 1, and 10 again in 3 by 1 and 4.
        C.goes(x, "feedFor(0, 3)", x.feedFor(0, 3), 6);
        C.goes(x, "feedFor(0, 5)", x.feedFor(0, 5), 46);
        C.goes(x, "feedFor(0, 6)", x.feedFor(0, 6), 56);
        C.goes(x, "feedFor(0, 7)", x.feedFor(0, 7), -2);
        C.goes(x, "feedFor(0, 23)", x.feedFor(0, 23), -2);
        C.refused(x, "feedFor(0, 24)", x.feedFor(0, 24), -1, 2);
        C.refused(x, "feedFor(0, -1)", x.feedFor(0, -1), -1, 2);
        C.refused(x, "feedFor(1, -1)", x.feedFor(1, -1), -1, 1);
        C.is("season", x.season(), 0);
        C.is("from NOW", x.feedFor(0, 0), 0);
        C.is("from NOW, one ahead", x.feedFor(0, 1), 10);
        GraftQuarrel sixty = Checks.ofText("valley winter 0 bears 30 coins 1 1 1 1" + AB
                + "quarrel p land of a b vigour 0;quarrel q land of a b vigour 1");
        C.is("sixty is right", sixty.feedFor(0, 1), 60);
        C.is("fifty-nine", sixty.feedFor(1, 1), 59);
        C.is("sixty isn't", sixty.feedFor(0, 2), -2);
        GraftQuarrel more = Checks.ofText("valley winter 1 bears 30 coins 1 1 1 1" + AB
                + "quarrel p land of a b vigour 0");
        for (int i = 0; i < 3; i++) {
            more.season();
        }
        C.is("sixty-one would be", more.feedFor(0, 1), -2);
    }

    private static void feedAgainst() {
        GraftQuarrel x = Checks.ofText("valley winter 9 bears 30 coins 1 1 1 1" + AB
                + "quarrel p land of a b vigour 2;quarrel q land of a b vigour 29;deed p season 1 feeds 5");
        C.goes(x, "feedAgainst(0, 0, 9): no more than its vigour", x.feedAgainst(0, 0, 9), 30);
        C.goes(x, "feedAgainst(0, 0, 1)", x.feedAgainst(0, 0, 1), 29);
        // much - 9 + 5 + much are 30.
        C.goes(x, "feedAgainst(0, 1, 9)", x.feedAgainst(0, 1, 9), 17);
        C.goes(x, "feedAgainst(1, 0, 0)", x.feedAgainst(1, 0, 0), 1);
        C.goes(x, "feedAgainst(1, 0, 5)", x.feedAgainst(1, 0, 5), 6);
        // By 10 to 13 a fruit falls in 2, and not in 3; by 18 in 1 and in 3: 18, 39, 25, 32.
        C.goes(x, "feedAgainst(0, 3, 2)", x.feedAgainst(0, 3, 2), 18);
        C.refused(x, "feedAgainst(0, 24, 0)", x.feedAgainst(0, 24, 0), -1, 2);
        C.refused(x, "feedAgainst(0, -1, 0)", x.feedAgainst(0, -1, 0), -1, 2);
        C.refused(x, "feedAgainst(0, 0, 10)", x.feedAgainst(0, 0, 10), -1, 2);
        C.refused(x, "feedAgainst(0, 0, -1)", x.feedAgainst(0, 0, -1), -1, 2);
        C.refused(x, "feedAgainst(2, 0, -1)", x.feedAgainst(2, 0, -1), -1, 1);
    }
}
