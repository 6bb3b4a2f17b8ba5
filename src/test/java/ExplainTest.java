/** Promises 36 to 40: EXPLAINED, the first told FRUIT that doesn't fall, YEARS. */
public final class ExplainTest {
    private static final Checks C = new Checks("ExplainTest");
    private static final String[] PAIR = {
        "family a people 1", "family b people 1", "family c people 1", "family d people 1",
        "quarrel p land of a b vigour 6", "quarrel q word of c d vigour 7",
        "law land on word odds 1", "law word on land odds 2",
    };

    public static void main(String[] args) {
        ways();
        told();
        judge();
        year();
        C.end();
    }

    private static void explained(GraftQuarrel x, int... due) {
        C.goes(x, "ways()", x.ways(), due.length);
        for (int i = 0; i < due.length; i++) {
            C.goes(x, "wayAt(" + i + ")", x.wayAt(i), due[i]);
        }
        C.refused(x, "wayAt behind the last", x.wayAt(due.length), -1, 1);
        C.refused(x, "wayAt(-1)", x.wayAt(-1), -1, 1);
    }

    private static void ways() {
        // Bears is 10: by themselves none bears; p on q is 10, q on p is 9.
        explained(Checks.of(PAIR), -2, 10);
        explained(Checks.of(GraftsTest.with(PAIR, "fell q season 0")), 1);
        explained(Checks.of(GraftsTest.with(PAIR, "fell p season 0")), 1);
        explained(Checks.of(GraftsTest.with(PAIR, "fell p season 0", "fell q season 0")), 1);
        explained(Checks.of(GraftsTest.with(PAIR, "fell p season 1")));
        explained(Checks.of(GraftsTest.with(PAIR, "deed p season 2 feeds 1", "fell q season 2")), 10);
        explained(Checks.of(GraftsTest.with(PAIR, "deed p season 2 feeds 4", "fell p season 2")), -2, 10);
        explained(Checks.of(GraftsTest.with(PAIR, "deed p season 2 feeds 4", "fell p season 2", "fell p season 3")));
        explained(Checks.of(GraftsTest.with(PAIR, "deed p season 22 feeds 9")), -2, 10);
        explained(Checks.of(GraftsTest.with(PAIR, "deed p season 22 feeds 9", "deed q season 22 feeds 1")), -2);
        explained(Checks.of(GraftsTest.with(PAIR, "deed p season 2 feeds 4", "fell p season 2", "pot q")), -2);
    }

    private static void told() {
        GraftQuarrel x = Checks.of(GraftsTest.with(PAIR, "deed p season 2 feeds 4", "fell p season 2"));
        C.is("graft", x.graft(0, 1), 10);
        C.is("season", x.season(), 1);
        C.is("nourish", x.nourish(1, 9), 9);
        explained(x, -2, 10);
        C.goes(x, "judge() as told", x.judge(), -2);
    }

    private static void judge() {
        GraftQuarrel x = Checks.of(NowTest.BASE);
        C.goes(x, "judge()", x.judge(), -2);
        C.is("another valley", Checks.tell(x, Checks.HEAD + ";" + String.join(";",
                GraftsTest.with(NowTest.BASE, "fell field season 2", "fell slander season 1"))), 4);
        C.goes(x, "judge()", x.judge(), 2);
        explained(x);
        GraftQuarrel y = Checks.of(GraftsTest.with(PAIR, "deed q season 2 feeds 3", "fell q season 2",
                "fell p season 2"));
        C.is("judge()", y.judge(), 1);
        // More may fall than is told.
        C.is("judge()", Checks.of(GraftsTest.with(PAIR, "deed q season 1 feeds 3")).judge(), -2);
        C.is("judge()", Checks.of(GraftsTest.with(PAIR, "fell q season 0")).judge(), 0);
    }

    private static void year() {
        // By 0 the draws are 74, 5624; 28652, 51790; 17641, 12409; 13231, 9344.
        GraftQuarrel x = Checks.ofText("valley winter 1 bears 4 coins 1 1 1 1;family a people 1;family b people 1;"
                + "family c people 1;family d people 1;quarrel p land of a b vigour 2;"
                + "quarrel q word of c d vigour 3;law land on word odds 1;deed p season 0 feeds 9");
        C.goes(x, "year(0)", x.year(0), 3);
        C.goes(x, "years(0, 0)", x.years(0, 0), 0);
        C.goes(x, "years(0, 1)", x.years(0, 1), 3);
        // Behind a year p has 0, q 1; the next draws are 45504, 4950; 43639, 61686; 38934, 36496; 50257, 33740:
        // p gets nothing, then q, p gets 4, q 2.
        C.goes(x, "years(0, 2)", x.years(0, 2), 4);
        C.goes(x, "year(65536)", x.year(65536), x.years(65536, 1));
        for (int seed : new int[] {-1, 65537, Integer.MAX_VALUE, Integer.MIN_VALUE}) {
            C.refused(x, "year(seed)", x.year(seed), -1, 2);
            C.refused(x, "years(seed, 1)", x.years(seed, 1), -1, 2);
        }
        C.refused(x, "years(0, -1)", x.years(0, -1), -1, 2);
        C.refused(x, "years(0, 21)", x.years(0, 21), -1, 2);
        C.is("graft", x.graft(0, 1), 4);
        // 6, a fruit; 6, a fruit; 3; 4 behind winter, a fruit.
        C.is("year(0) behind a graft", x.year(0), 3);
        C.is("cut", x.cut(1, 1), 1);
        // 5, a fruit; 5, a fruit; 2; 3 behind winter.
        C.is("year(0) behind a cut", x.year(0), 2);
        C.is("nothing changes by asking", x.size(8), 0);
    }
}
