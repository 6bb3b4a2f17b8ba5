/** Promises 21 to 27: what can be grafted on what, LEFT, SUREST. */
public final class GraftsTest {
    private static final Checks C = new Checks("GraftsTest");

    public static void main(String[] args) {
        odds();
        grafted();
        bestGraft();
        surest();
        surestWithPots();
        withoutGrafts();
        sixOfSix();
        oneInAHundred();
        C.end();
    }

    private static void odds() {
        GraftQuarrel x = Checks.of(NowTest.BASE);
        C.goes(x, "odds(1, 0)", x.odds(1, 0), 80);
        C.goes(x, "odds(0, 1): no law that way", x.odds(0, 1), 0);
        C.goes(x, "odds(3, 0): potted", x.odds(3, 0), 0);
        C.goes(x, "odds(2, 1)", x.odds(2, 1), 50);
        C.goes(x, "odds(1, 1): its own families", x.odds(1, 1), 0);
        C.refused(x, "odds(-1, 0)", x.odds(-1, 0), -1, 1);
        C.refused(x, "odds(4, 0)", x.odds(4, 0), -1, 1);
        C.refused(x, "odds(0, -1)", x.odds(0, -1), -1, 1);
        C.refused(x, "odds(0, 4)", x.odds(0, 4), -1, 1);
        C.is("graft(2, 1)", x.graft(2, 1), 6);
        C.is("a family in both PARTIES now", x.odds(1, 0), 0);
        C.is("it stands no more", x.odds(2, 0), 0);
        GraftQuarrel y = Checks.of(NowTest.CHAIN);
        C.is("graft(0, 1)", y.graft(0, 1), 11);
        C.is("the greatest of two laws", y.odds(1, 2), 90);
        C.is("by a KIND that was grafted", y.odds(2, 1), 20);
        C.is("on one that stands no more", y.odds(2, 0), 0);
        GraftQuarrel z = Checks.of("family a people 1", "family b people 1", "family c people 1", "family d people 1",
                "quarrel p land of a b vigour 1", "quarrel q land of c d vigour 1", "law land on land odds 100",
                "pot q");
        C.is("on a potted one", z.odds(0, 1), 0);
    }

    private static void grafted() {
        GraftQuarrel x = Checks.of(NowTest.BASE);
        C.goes(x, "grafted(1, 0, 0)", x.grafted(1, 0, 0), 0);
        C.goes(x, "grafted(1, 0, 1)", x.grafted(1, 0, 1), 1);
        C.goes(x, "grafted(1, 0, 2)", x.grafted(1, 0, 2), 1);
        C.goes(x, "grafted(1, 0, 24)", x.grafted(1, 0, 24), 2);
        C.is("nothing is grafted", x.stand(), 4);
        C.refused(x, "grafted(0, 1, 3)", x.grafted(0, 1, 3), -1, 5);
        C.refused(x, "a number ahead of that", x.grafted(0, 1, 25), -1, 2);
        C.refused(x, "grafted(1, 0, -1)", x.grafted(1, 0, -1), -1, 2);
        C.refused(x, "grafted(1, 4, -1)", x.grafted(1, 4, -1), -1, 1);
        C.refused(x, "grafted(-1, 0, 0)", x.grafted(-1, 0, 0), -1, 1);
    }

    private static void bestGraft() {
        GraftQuarrel x = Checks.ofText("valley winter 0 bears 4 coins 1 1 1 1;"
                + "family a people 1;family b people 1;family c people 1;family d people 1;"
                + "family e people 1;family f people 1;quarrel p land of a b vigour 4;"
                + "quarrel q word of c d vigour 5;quarrel r love of e f vigour 7;"
                + "law land on word odds 5;law land on love odds 6;law love on word odds 7;law word on land odds 1");
        // Without any: 1, 1, 1. p on q: 7 and 7, 2; p on r: 9, 5: 3; r on q: 8, 4: 3; q on p: 6, 7: 2.
        C.goes(x, "bestGraft(0)", x.bestGraft(0), -2);
        C.goes(x, "bestGraft(1)", x.bestGraft(1), 1);
        C.goes(x, "bestGraft(24)", x.bestGraft(24), 1);
        C.refused(x, "bestGraft(25)", x.bestGraft(25), -1, 2);
        C.refused(x, "bestGraft(-1)", x.bestGraft(-1), -1, 2);
        C.is("cut", x.cut(0, 2), 2);
        C.is("cut", x.cut(2, 3), 5);
        // p 2, q 5, r 4: without any 2. p on q: 6, 4: 2; p on r: 5, 5: 2; r on q: 7, 2: 1; q on p: 4, 4: 2.
        C.is("a later one that is fewer", x.bestGraft(24), 21);
        C.is("graft", x.graft(2, 1), 7);
        C.is("none is fewer", x.bestGraft(24), -2);
    }

    private static void surest() {
        GraftQuarrel x = Checks.of(NowTest.CHAIN);
        C.goes(x, "left()", x.left(), 1);
        C.goes(x, "surest(false)", x.surest(false), 63);
        C.goes(x, "surest(true)", x.surest(true), 100);
        C.goes(x, "takes(false)", x.takes(false), 8);
        C.goes(x, "takes(true)", x.takes(true), 5);
        C.goes(x, "surestAt(0), the first of like ones", x.surestAt(0), 2);
        C.goes(x, "surestAt(1)", x.surestAt(1), 12);
        C.refused(x, "surestAt(2)", x.surestAt(2), -1, 1);
        C.refused(x, "surestAt(-1)", x.surestAt(-1), -1, 1);
        C.is("graft(2, 0)", x.graft(2, 0), 11);
        C.is("left() from NOW", x.left(), 1);
        C.is("surest(false) from NOW", x.surest(false), 7);
        C.is("surest(true) from NOW", x.surest(true), 10);
        C.is("surestAt(0) from NOW", x.surestAt(0), 10);
        C.is("undo", x.undo(), true);
        C.is("surestAt(0) as before", x.surestAt(0), 2);
        C.is("image", x.image(), 0);
        C.is("graft(2, 0)", x.graft(2, 0), 11);
        C.is("takes(false)", x.takes(false), 7);
        C.is("back", x.back(0), true);
        C.is("takes(false) as before", x.takes(false), 8);
        C.is("another valley", Checks.tell(x, Checks.HEAD + ";" + String.join(";", NowTest.BASE)), 4);
        C.is("left() of it", x.left(), 3);
        C.is("surestAt(0) of it", x.surestAt(0), 10);
    }

    private static void surestWithPots() {
        // A pot leaves the likeliest pair out, and counts among those that stand.
        GraftQuarrel x = Checks.of(with(NowTest.CHAIN, "pot r"));
        C.is("left()", x.left(), 2);
        C.is("surest(false)", x.surest(false), 2);
        C.is("surest(true)", x.surest(true), 5);
        C.is("surestAt(0)", x.surestAt(0), 1);
        C.refused(x, "surestAt(1)", x.surestAt(1), -1, 1);
    }

    private static void withoutGrafts() {
        GraftQuarrel x = Checks.of("family a people 1", "family b people 1", "quarrel p land of a b vigour 1",
                "quarrel q land of a b vigour 1", "law land on land odds 100");
        C.is("left()", x.left(), 2);
        C.goes(x, "surest(false)", x.surest(false), 1);
        C.goes(x, "surest(true)", x.surest(true), 1);
        C.goes(x, "takes(false)", x.takes(false), 0);
        C.goes(x, "takes(true)", x.takes(true), 1);
        C.refused(x, "surestAt(0)", x.surestAt(0), -1, 1);
    }

    private static void sixOfSix() {
        // Two times three that have all six families: four grafts, all sure.
        GraftQuarrel x = Checks.of("family a people 1", "family b people 1", "family c people 1",
                "family d people 1", "family e people 1", "family f people 1",
                "quarrel k land of a b vigour 1", "quarrel l land of c d vigour 1", "quarrel m land of e f vigour 1",
                "quarrel n land of b a vigour 1", "quarrel o land of d c vigour 1", "quarrel p land of f e vigour 1",
                "law land on land odds 100");
        C.is("left()", x.left(), 2);
        C.is("surest(false)", x.surest(false), 1);
        C.is("surest(true)", x.surest(true), 1);
        C.is("takes(false)", x.takes(false), 4);
        C.is("takes(true)", x.takes(true), 1);
        // 0 on 1, 1 on 2, 3 on 4, 4 on 5 is the first of the like.
        int[] due = {1, 12, 34, 45};
        for (int i = 0; i < 4; i++) {
            C.is("surestAt(" + i + ")", x.surestAt(i), due[i]);
        }
        C.refused(x, "surestAt(4)", x.surestAt(4), -1, 1);
    }

    private static void oneInAHundred() {
        GraftQuarrel x = Checks.of("family a people 1", "family b people 1", "family c people 1",
                "family d people 1", "quarrel p land of a b vigour 10", "quarrel q word of c d vigour 10",
                "law word on land odds 1");
        C.is("odds(1, 0)", x.odds(1, 0), 1);
        C.is("bestGraft(1)", x.bestGraft(1), 10);
        C.is("left()", x.left(), 1);
        C.is("surest(false)", x.surest(false), 1);
        C.is("surest(true)", x.surest(true), 100);
        C.is("takes(false)", x.takes(false), 1);
        C.is("takes(true)", x.takes(true), 100);
        C.is("surestAt(0)", x.surestAt(0), 10);
    }

    static String[] with(String[] lines, String... more) {
        String[] all = java.util.Arrays.copyOf(lines, lines.length + more.length);
        System.arraycopy(more, 0, all, lines.length, more.length);
        return all;
    }
}
