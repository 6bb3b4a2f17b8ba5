/** Promises 32 to 35: SHARES of a FRUIT, a GAME, its RESTS. */
public final class GameTest {
    private static final Checks C = new Checks("GameTest");

    public static void main(String[] args) {
        share();
        shareNumbers();
        game();
        rests();
        C.end();
    }

    private static void shares(GraftQuarrel x, int q, int deeds, int... due) {
        for (int f = 0; f < due.length; f++) {
            C.goes(x, "share(" + q + ", " + f + ", " + deeds + ")", x.share(q, f, deeds), due[f]);
        }
    }

    private static void share() {
        GraftQuarrel x = Checks.of(NowTest.CHAIN);
        shares(x, 0, 0, 0, 0, 0, 0, 0, 0);
        shares(x, 0, 1, 0, 1, 0, 0, 0, 0);
        shares(x, 0, 2, 1, 1, 0, 0, 0, 0);
        shares(x, 0, 999, 333, 666, 0, 0, 0, 0);
        shares(x, 2, 5, 0, 0, 0, 0, 2, 3);
        C.is("graft(0, 1)", x.graft(0, 1), 11);
        C.is("graft(1, 2)", x.graft(1, 2), 10);
        // Of 21 people: 0 and 10, 0 and 20, 1 and 9, 1 and 19, 2 and 8, 2 and 18 of 21; four are left.
        shares(x, 2, 10, 1, 1, 1, 2, 2, 3);
        shares(x, 2, 21, 1, 2, 3, 4, 5, 6);
        C.refused(x, "share of one that doesn't stand", x.share(0, 0, 10), -1, 1);
        GraftQuarrel like = Checks.of("family a people 7", "family b people 7", "family c people 7",
                "family d people 7", "quarrel p land of d b vigour 1", "quarrel q land of c a vigour 1",
                "law land on land odds 1");
        shares(like, 0, 3, 0, 2, 0, 1);
        C.is("graft", like.graft(0, 1), 1);
        shares(like, 1, 3, 1, 1, 1, 0);
        shares(like, 1, 5, 2, 1, 1, 1);
    }

    private static void shareNumbers() {
        GraftQuarrel x = Checks.of(NowTest.BASE);
        C.refused(x, "share(0, 0, 1000)", x.share(0, 0, 1000), -1, 2);
        C.refused(x, "share(0, 0, -1)", x.share(0, 0, -1), -1, 2);
        C.refused(x, "share(0, 3, -1), not of its PARTIES", x.share(0, 3, -1), -1, 2);
        C.refused(x, "share(4, 0, -1)", x.share(4, 0, -1), -1, 1);
        C.refused(x, "share(-1, 0, 1)", x.share(-1, 0, 1), -1, 1);
        C.refused(x, "share(0, 5, -1)", x.share(0, 5, -1), -1, 1);
        C.refused(x, "share(0, -1, 1)", x.share(0, -1, 1), -1, 1);
    }

    private static void game() {
        GraftQuarrel x = Checks.of(NowTest.BASE);
        for (int fed = 0; fed <= 4; fed++) {
            for (int cut = 0; cut <= 4; cut++) {
                boolean fruit = 8 + fed - cut >= 10;
                String what = "game(0, " + fed + ", " + cut + ", ";
                C.goes(x, what + "false)", x.game(0, fed, cut, false), (fruit ? 9 : 0) - fed);
                C.goes(x, what + "true)", x.game(0, fed, cut, true), (fruit ? -9 : 0) - cut);
            }
        }
        C.is("nothing is fed by asking", x.quarrel(0, 1), 8);
        // In season 1 a deed would feed it 4; in season 3 winter would take 3.
        C.is("season", x.season(), 0);
        C.is("as if no deed was told", x.game(0, 1, 0, false), -1);
        for (int i = 1; i < 3; i++) {
            x.season();
        }
        C.is("nourish", x.nourish(0, 8), 10);
        C.is("as if it wasn't winter", x.game(0, 0, 0, false), 9);
        int[][] wrong = {{-1, 0}, {5, 0}, {0, -1}, {0, 5}};
        for (int[] w : wrong) {
            C.refused(x, "game(0, w, w, true)", x.game(0, w[0], w[1], true), -100, 2);
            C.refused(x, "game(4, w, w, true)", x.game(4, w[0], w[1], true), -100, 1);
            C.refused(x, "game(-1, w, w, false)", x.game(-1, w[0], w[1], false), -100, 1);
        }
        GraftQuarrel y = Checks.of(NowTest.CHAIN);
        C.is("graft", y.graft(0, 1), 11);
        C.refused(y, "game of one that doesn't stand", y.game(0, 0, 0, true), -100, 1);
        C.refused(y, "rests of one that doesn't stand", y.rests(0), -1, 1);
        C.refused(y, "rest of one that doesn't stand", y.rest(0), -1, 1);
    }

    private static void rests() {
        GraftQuarrel x = Checks.of("family a people 1", "family b people 1", "quarrel p land of a b vigour 0");
        for (int vigour = 0; vigour <= 20; vigour++) {
            // Bears is 10: up to 5 no feeding helps, from 14 on no cutting does.
            boolean still = vigour <= 5 || vigour >= 14;
            C.goes(x, "rests by vigour " + vigour, x.rests(0), still ? 1 : 0);
            C.goes(x, "rest by vigour " + vigour, x.rest(0), still ? 0 : -2);
            x.nourish(0, 1);
        }
        C.refused(x, "rests(1)", x.rests(1), -1, 1);
        C.refused(x, "rests(-1)", x.rests(-1), -1, 1);
        C.refused(x, "rest(1)", x.rest(1), -1, 1);
        C.refused(x, "rest(-1)", x.rest(-1), -1, 1);
    }
}
