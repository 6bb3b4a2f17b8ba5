/** Promises 41 to 47: ACTS, UNDO, IMAGES. */
public final class ActsTest {
    private static final Checks C = new Checks("ActsTest");

    public static void main(String[] args) {
        graft();
        nourish();
        cut();
        season();
        lastSeason();
        undo();
        sixteen();
        images();
        C.end();
    }

    private static void graft() {
        GraftQuarrel x = Checks.of(NowTest.BASE);
        C.refused(x, "graft(0, 1)", x.graft(0, 1), -1, 5);
        C.refused(x, "graft(1, 1)", x.graft(1, 1), -1, 5);
        C.refused(x, "graft(3, 0), potted", x.graft(3, 0), -1, 5);
        C.refused(x, "graft(4, 0)", x.graft(4, 0), -1, 1);
        C.refused(x, "graft(0, -1)", x.graft(0, -1), -1, 1);
        C.is("no act", x.size(10), 0);
        C.goes(x, "graft(1, 0)", x.graft(1, 0), 10);
        C.is("the stock's vigour", x.quarrel(0, 1), 10);
        C.is("an act", x.size(10), 1);
        C.refused(x, "graft(2, 1), on one that doesn't stand", x.graft(2, 1), -1, 5);
        C.refused(x, "graft(1, 0) again", x.graft(1, 0), -1, 5);
        GraftQuarrel y = Checks.of(NowTest.CHAIN);
        C.is("season", y.season(), 0);
        C.is("nourish", y.nourish(0, 3), 12);
        C.is("season", y.season(), 1);
        C.is("its fruits", y.quarrel(0, 5), 1);
        C.is("graft", y.graft(0, 1), 8);
        C.is("its fruits so far", y.quarrel(0, 5), 1);
        C.is("the stock's are its own", y.quarrel(1, 5), 0);
    }

    private static void nourish() {
        GraftQuarrel x = Checks.of(NowTest.CHAIN);
        C.goes(x, "nourish(0, 1)", x.nourish(0, 1), 10);
        C.goes(x, "nourish(0, 9)", x.nourish(0, 9), 19);
        C.is("no fruit by it", x.quarrel(0, 5), 0);
        C.refused(x, "nourish(0, 0)", x.nourish(0, 0), -1, 2);
        C.refused(x, "nourish(0, 10)", x.nourish(0, 10), -1, 2);
        C.refused(x, "nourish(3, 0)", x.nourish(3, 0), -1, 1);
        C.refused(x, "nourish(-1, 1)", x.nourish(-1, 1), -1, 1);
        C.is("graft", x.graft(0, 1), 16);
        C.refused(x, "nourish(0, 1)", x.nourish(0, 1), -1, 5);
        C.refused(x, "nourish(0, 10), the number ahead", x.nourish(0, 10), -1, 2);
        C.is("acts", x.size(10), 3);
    }

    private static void cut() {
        GraftQuarrel x = Checks.of(NowTest.CHAIN);
        C.goes(x, "cut(0, 2) in spring", x.cut(0, 2), 4);
        C.is("its vigour", x.quarrel(0, 1), 7);
        C.refused(x, "cut(0, 8)", x.cut(0, 8), -1, 2);
        C.refused(x, "cut(0, 0)", x.cut(0, 0), -1, 2);
        C.refused(x, "cut(0, -1)", x.cut(0, -1), -1, 2);
        C.refused(x, "cut(3, 0)", x.cut(3, 0), -1, 1);
        C.refused(x, "cut(-1, 1)", x.cut(-1, 1), -1, 1);
        int[] coins = {2, 3, 1, 5};
        int paid = 4;
        for (int i = 0; i < 6; i++) {
            x.nourish(2, 1);
            paid += coins[i % 4];
            C.goes(x, "cut in season " + i, x.cut(2, 1), paid);
            C.is("PAID", x.size(9), paid);
            x.season();
        }
        C.is("graft", x.graft(0, 1), 6);
        C.refused(x, "cut(0, 1)", x.cut(0, 1), -1, 5);
        C.refused(x, "cut(0, 99), that it doesn't stand ahead", x.cut(0, 99), -1, 5);
        for (int i = 0; i < 4; i++) {
            x.nourish(1, 9);
        }
        C.refused(x, "cut(1, 31)", x.cut(1, 31), -1, 2);
        C.goes(x, "cut(1, 30)", x.cut(1, 30), paid + 30);
    }

    private static void season() {
        GraftQuarrel x = Checks.ofText("valley winter 1 bears 5 coins 1 1 1 1;family a people 1;family b people 1;"
                + "quarrel p land of a b vigour 9;quarrel q land of a b vigour 10;quarrel r land of a b vigour 4");
        C.goes(x, "season()", x.season(), 2);
        C.is("NOW", x.size(8), 1);
        C.goes(x, "season()", x.season(), 1);
        C.goes(x, "season()", x.season(), 0);
        C.is("fruits of p", x.quarrel(0, 5), 1);
        C.is("fruits of q", x.quarrel(1, 5), 2);
        C.is("fruits of r", x.quarrel(2, 5), 0);
        C.is("ahead of winter", x.quarrel(2, 1), 4);
        C.goes(x, "season() winter", x.season(), 0);
        C.is("behind winter", x.quarrel(2, 1), 3);
    }

    private static void lastSeason() {
        GraftQuarrel x = Checks.ofText("valley winter 0 bears 5 coins 1 1 1 1;family a people 1;family b people 1;"
                + "quarrel p land of a b vigour 3");
        for (int i = 0; i < 200; i++) {
            C.is("season " + i, x.season(), 0);
        }
        C.refused(x, "the 201st", x.season(), -1, 3);
        C.is("NOW", x.size(8), 200);
        C.is("suckers", x.quarrel(0, 6), 16);
        C.goes(x, "vigour goes on", x.vigour(0, 24), 3);
        C.goes(x, "suckers go on: 203, 215", x.suckers(24), 2);
        C.is("undo", x.undo(), true);
        C.goes(x, "season again", x.season(), 0);
    }

    private static void undo() {
        GraftQuarrel x = Checks.of(NowTest.BASE);
        C.refused(x, "undo of nothing", x.undo() ? 1 : 0, 0, 6);
        x.nourish(0, 2);
        x.graft(1, 0);
        x.cut(0, 1);
        x.season();
        C.is("fruit", x.quarrel(0, 5), 1);
        C.goes(x, "undo the season", x.undo() ? 1 : 0, 1);
        C.is("NOW", x.size(8), 0);
        C.is("fruit", x.quarrel(0, 5), 0);
        C.is("vigour", x.quarrel(0, 1), 11);
        C.is("PAID", x.size(9), 2);
        C.is("undo the cut", x.undo(), true);
        C.is("vigour", x.quarrel(0, 1), 12);
        C.is("PAID", x.size(9), 0);
        C.is("undo the graft", x.undo(), true);
        C.is("it stands", x.quarrel(1, 2), -2);
        C.is("its vigour", x.quarrel(1, 1), 5);
        C.is("the stock's", x.quarrel(0, 1), 10);
        C.is("acts", x.size(10), 1);
        C.is("undo the feeding", x.undo(), true);
        C.is("vigour", x.quarrel(0, 1), 8);
        C.refused(x, "undo once more", x.undo() ? 1 : 0, 0, 6);
        x.nourish(0, 0);
        C.is("what is refused is no act", x.size(10), 0);
    }

    private static void sixteen() {
        GraftQuarrel x = Checks.of(NowTest.BASE);
        for (int i = 1; i <= 20; i++) {
            C.is("nourish", x.nourish(0, 1), 8 + i);
            C.is("acts", x.size(10), Math.min(i, 16));
        }
        for (int i = 1; i <= 16; i++) {
            C.is("undo", x.undo(), true);
            C.is("vigour", x.quarrel(0, 1), 28 - i);
        }
        C.refused(x, "the seventeenth", x.undo() ? 1 : 0, 0, 6);
        C.is("vigour", x.quarrel(0, 1), 12);
    }

    private static void images() {
        GraftQuarrel x = Checks.of(NowTest.BASE);
        C.refused(x, "back(0)", x.back(0) ? 1 : 0, 0, 1);
        C.goes(x, "image()", x.image(), 0);
        x.graft(1, 0);
        x.cut(0, 3);
        C.goes(x, "image()", x.image(), 1);
        x.season();
        C.goes(x, "image()", x.image(), 2);
        C.refused(x, "a fourth", x.image(), -1, 3);
        C.is("images", x.size(11), 3);
        C.is("an image is no act", x.size(10), 3);
        C.goes(x, "back(0)", x.back(0) ? 1 : 0, 1);
        C.is("all as then: it stands", x.quarrel(1, 2), -2);
        C.is("all as then: NOW", x.size(8), 0);
        C.is("all as then: PAID", x.size(9), 0);
        C.is("nothing can be undone", x.size(10), 0);
        C.refused(x, "undo", x.undo() ? 1 : 0, 0, 6);
        C.is("images stay", x.size(11), 3);
        C.is("nourish", x.nourish(0, 9), 17);
        C.is("back(1)", x.back(1), true);
        C.is("as then: PAID", x.size(9), 6);
        C.is("as then: vigour", x.quarrel(0, 1), 7);
        C.is("as then: it is grafted", x.quarrel(1, 2), 0);
        C.is("back(2)", x.back(2), true);
        C.is("as then: NOW", x.size(8), 1);
        C.is("as then: fruits", x.quarrel(0, 5), 1);
        C.is("back(0), as it was kept", x.back(0), true);
        C.is("vigour", x.quarrel(0, 1), 8);
        C.refused(x, "back(3)", x.back(3) ? 1 : 0, 0, 1);
        C.refused(x, "back(-1)", x.back(-1) ? 1 : 0, 0, 1);
    }
}
