/** Promises 12 to 20: behind so many seasons. */
public final class SeasonsTest {
    private static final Checks C = new Checks("SeasonsTest");

    public static void main(String[] args) {
        vigourAndFruits();
        winterAndPots();
        oneFruitASeason();
        suckers();
        peace();
        worstAndSpared();
        graftedDeeds();
        fromNow();
        wrongNumbers();
        C.end();
    }

    private static void vigourAndFruits() {
        GraftQuarrel x = Checks.of(NowTest.BASE);
        int[] field = {8, 8, 2, 2, 0, 0};
        int[] slander = {5, 8, 8, 2, 0, 0};
        int[] fallen = {0, 0, 1, 2, 2, 2};
        for (int n = 0; n < field.length; n++) {
            C.goes(x, "vigour(0, " + n + ")", x.vigour(0, n), field[n]);
            C.goes(x, "vigour(1, " + n + ")", x.vigour(1, n), slander[n]);
            C.goes(x, "fallen(" + n + ")", x.fallen(n), fallen[n]);
            C.goes(x, "fruits(0, " + n + ")", x.fruits(0, n), n >= 2 ? 1 : 0);
            C.goes(x, "fruits(1, " + n + ")", x.fruits(1, n), n >= 3 ? 1 : 0);
        }
        C.goes(x, "first(0)", x.first(0), 2);
        C.goes(x, "first(1)", x.first(1), 3);
        C.goes(x, "first(2)", x.first(2), -2);
        C.is("nothing changes by asking", x.size(8), 0);
        C.is("its vigour stays", x.quarrel(0, 1), 8);
    }

    private static void winterAndPots() {
        GraftQuarrel x = Checks.ofText("valley winter 4 bears 20 coins 1 1 1 1;family a people 1;family b people 1;"
                + "quarrel p land of a b vigour 9;quarrel q land of a b vigour 9;pot q;"
                + "deed p season 3 feeds 2;deed q season 3 feeds 2;deed p season 7 feeds 9");
        C.is("behind autumn", x.vigour(0, 3), 9);
        C.is("behind winter", x.vigour(0, 4), 7);
        C.is("behind the next winter", x.vigour(0, 8), 12);
        C.is("behind one more", x.vigour(0, 12), 8);
        C.is("potted behind winter", x.vigour(1, 4), 11);
        C.is("potted behind all", x.vigour(1, 24), 11);
        GraftQuarrel y = Checks.ofText("valley winter 5 bears 4 coins 1 1 1 1;family a people 1;family b people 1;"
                + "quarrel p land of a b vigour 0;quarrel q land of a b vigour 0;"
                + "deed p season 3 feeds 8;deed q season 3 feeds 9");
        C.is("winter ahead of the fruit", y.fruits(0, 4), 0);
        C.is("fed, less by winter, a fruit", y.fruits(1, 4), 1);
        C.is("its vigour", y.vigour(1, 4), 0);
        C.is("the other one's", y.vigour(0, 4), 3);
        C.is("0 at least", y.vigour(0, 8), 0);
    }

    private static void oneFruitASeason() {
        GraftQuarrel x = Checks.ofText("valley winter 0 bears 4 coins 1 1 1 1;family a people 1;family b people 1;"
                + "quarrel p land of a b vigour 30");
        for (int n = 0; n <= 24; n++) {
            int fell = Math.min(n, 7);
            C.is("fruits(0, " + n + ")", x.fruits(0, n), fell);
            C.is("vigour(0, " + n + ")", x.vigour(0, n), 30 - 4 * fell);
        }
        C.is("first", x.first(0), 1);
        GraftQuarrel y = Checks.ofText("valley winter 0 bears 4 coins 1 1 1 1;family a people 1;family b people 1;"
                + "quarrel p land of a b vigour 3;deed p season 23 feeds 1");
        C.is("first in the last", y.first(0), 24);
        C.is("fruits(0, 23)", y.fruits(0, 23), 0);
        C.is("fruits(0, 24)", y.fruits(0, 24), 1);
        C.is("season", y.season(), 0);
        C.is("first from NOW", y.first(0), 23);
    }

    private static void suckers() {
        GraftQuarrel x = Checks.ofText("valley winter 0 bears 30 coins 1 1 1 1;family a people 1;family b people 1;"
                + "quarrel p land of a b vigour 3;quarrel q land of a b vigour 2;quarrel r land of a b vigour 9;"
                + "quarrel s land of a b vigour 0;pot r;deed q season 12 feeds 1;deed s season 11 feeds 3");
        C.goes(x, "suckers(11)", x.suckers(11), 0);
        C.goes(x, "suckers(12)", x.suckers(12), 2);
        C.goes(x, "suckers(23)", x.suckers(23), 2);
        C.goes(x, "suckers(24)", x.suckers(24), 5);
        for (int i = 0; i < 12; i++) {
            x.season();
        }
        int[] due = {1, 0, 0, 1};
        for (int q = 0; q < 4; q++) {
            C.is("quarrel(" + q + ", 6)", x.quarrel(q, 6), due[q]);
        }
        C.is("suckers(0) from NOW", x.suckers(0), 0);
        C.is("suckers(12) from NOW", x.suckers(12), 3);
        C.is("suckers(24) from NOW: 35 too", x.suckers(24), 6);
        GraftQuarrel y = Checks.ofText("valley winter 7 bears 30 coins 1 1 1 1;family a people 1;family b people 1;"
                + "quarrel p land of a b vigour 23");
        C.is("behind winter", y.suckers(12), 0);
    }

    private static void peace() {
        GraftQuarrel x = Checks.ofText("valley winter 3 bears 10 coins 1 1 1 1;family a people 1;family b people 1;"
                + "quarrel p land of a b vigour 5;quarrel q word of a b vigour 2;deed q season 10 feeds 1");
        C.goes(x, "peaceBy()", x.peaceBy(), 8);
        C.goes(x, "quiet(7)", x.quiet(7), 0);
        C.goes(x, "quiet(8)", x.quiet(8), 1);
        C.goes(x, "quiet(10)", x.quiet(10), 3);
        C.goes(x, "quiet(11)", x.quiet(11), 3);
        C.goes(x, "quiet(12)", x.quiet(12), 4);
        C.goes(x, "quiet(24)", x.quiet(24), 16);
        C.goes(x, "quiet(0)", x.quiet(0), 0);
        C.is("cut", x.cut(0, 5), 5);
        C.is("cut", x.cut(1, 2), 7);
        C.is("peaceBy() NOW", x.peaceBy(), 0);
        C.is("NOW isn't counted", x.quiet(0), 0);
        C.is("quiet(1)", x.quiet(1), 1);
        GraftQuarrel y = Checks.ofText("valley winter 0 bears 10 coins 1 1 1 1;family a people 1;family b people 1;"
                + "quarrel p land of a b vigour 5");
        C.goes(y, "peaceBy() never", y.peaceBy(), -2);
        String six = "valley winter 3 bears 30 coins 1 1 1 1;family a people 1;family b people 1;"
                + "quarrel p land of a b vigour ";
        C.is("peaceBy() by six winters", Checks.ofText(six + "18").peaceBy(), 24);
        C.is("peaceBy() by seven", Checks.ofText(six + "19").peaceBy(), -2);
    }

    private static void worstAndSpared() {
        GraftQuarrel x = Checks.ofText("valley winter 0 bears 4 coins 1 1 1 1;family a people 1;family b people 1;"
                + "quarrel p land of a b vigour 4;quarrel q word of a b vigour 9;quarrel r word of a b vigour 8;"
                + "quarrel s word of a b vigour 1;deed q season 3 feeds 4");
        C.goes(x, "worst(0)", x.worst(0), -2);
        C.goes(x, "worst(1), the first of like", x.worst(1), 0);
        C.goes(x, "worst(2)", x.worst(2), 1);
        C.goes(x, "worst(4)", x.worst(4), 1);
        C.goes(x, "spared(0, 24)", x.spared(0, 24), 1);
        C.goes(x, "spared(1, 4)", x.spared(1, 4), 2);
        C.goes(x, "spared(2, 1)", x.spared(2, 1), 1);
        C.goes(x, "spared(3, 24)", x.spared(3, 24), 0);
        C.goes(x, "spared(2, 0)", x.spared(2, 0), 0);
        GraftQuarrel y = Checks.of(NowTest.CHAIN);
        C.is("graft", y.graft(0, 1), 11);
        C.refused(y, "spared of one that doesn't stand", y.spared(0, 1), -100, 1);
        C.refused(y, "of it, a number too", y.spared(0, 25), -100, 1);
        C.goes(y, "of the stock", y.spared(1, 1), 1);
    }

    private static void graftedDeeds() {
        String[] lines = java.util.Arrays.copyOf(NowTest.CHAIN, NowTest.CHAIN.length + 2);
        lines[lines.length - 2] = "deed p season 0 feeds 3";
        lines[lines.length - 1] = "deed q season 1 feeds 2";
        GraftQuarrel x = Checks.of(lines);
        C.is("graft(0, 1)", x.graft(0, 1), 11);
        C.is("vigour(0, 0)", x.vigour(0, 0), 0);
        C.is("vigour(0, 1)", x.vigour(0, 1), 0);
        C.is("fruits(0, 24)", x.fruits(0, 24), 0);
        C.is("first(0)", x.first(0), -2);
        C.is("vigour(1, 1)", x.vigour(1, 1), 4);
        C.is("vigour(1, 2)", x.vigour(1, 2), 6);
        C.is("graft(1, 2)", x.graft(1, 2), 10);
        C.is("vigour(2, 1)", x.vigour(2, 1), 3);
        C.is("vigour(2, 2)", x.vigour(2, 2), 5);
        C.is("fallen(24)", x.fallen(24), 1);
    }

    private static void fromNow() {
        GraftQuarrel x = Checks.of(NowTest.BASE);
        C.is("season", x.season(), 0);
        C.is("season", x.season(), 1);
        C.is("vigour(1, 1)", x.vigour(1, 1), 2);
        C.is("first(1)", x.first(1), 1);
        C.is("fallen(24)", x.fallen(24), 1);
        C.is("fruits(0, 24)", x.fruits(0, 24), 0);
        C.is("vigour(0, 2)", x.vigour(0, 2), 0);
        for (int i = 2; i < 24; i++) {
            x.season();
        }
        C.is("nourish", x.nourish(0, 9), 9);
        C.is("deeds come once", x.fallen(24), 0);
        C.is("winter goes on", x.vigour(0, 8), 3);
    }

    private static void wrongNumbers() {
        GraftQuarrel x = Checks.of(NowTest.BASE);
        for (int n : new int[] {-1, 25, Integer.MIN_VALUE, Integer.MAX_VALUE}) {
            C.refused(x, "vigour(0, n)", x.vigour(0, n), -1, 2);
            C.refused(x, "vigour(4, n)", x.vigour(4, n), -1, 1);
            C.refused(x, "fruits(0, n)", x.fruits(0, n), -1, 2);
            C.refused(x, "fruits(-1, n)", x.fruits(-1, n), -1, 1);
            C.refused(x, "fallen(n)", x.fallen(n), -1, 2);
            C.refused(x, "suckers(n)", x.suckers(n), -1, 2);
            C.refused(x, "quiet(n)", x.quiet(n), -1, 2);
            C.refused(x, "worst(n)", x.worst(n), -1, 2);
            C.refused(x, "spared(0, n)", x.spared(0, n), -100, 2);
            C.refused(x, "spared(4, n)", x.spared(4, n), -100, 1);
        }
        C.refused(x, "first(-1)", x.first(-1), -1, 1);
        C.refused(x, "first(4)", x.first(4), -1, 1);
        C.goes(x, "fallen(24)", x.fallen(24), 2);
    }
}
