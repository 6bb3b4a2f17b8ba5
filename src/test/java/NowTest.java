/** Promises 6 to 11, 48 to 50: what is NOW, what is told. */
public final class NowTest {
    private static final Checks C = new Checks("NowTest");
    static final String[] BASE = {
        "family adler people 20", "family berg people 10", "family crow people 5",
        "family dahl people 5", "family ernst people 7",
        "quarrel field land of adler berg vigour 8", "quarrel slander word of crow dahl vigour 5",
        "quarrel bride love of berg ernst vigour 2", "quarrel loan debt of crow ernst vigour 9",
        "law word on land odds 80", "law love on word odds 50", "law debt on land odds 30",
        "deed field season 1 feeds 4", "deed slander season 0 feeds 3", "deed slander season 2 feeds 4",
        "pot loan", "fell field season 1", "fell slander season 2",
    };
    static final String[] CHAIN = {
        "family a people 1", "family b people 2", "family c people 3",
        "family d people 4", "family e people 5", "family f people 6",
        "quarrel p land of a b vigour 9", "quarrel q word of c d vigour 7", "quarrel r love of e f vigour 5",
        "law land on word odds 40", "law word on love odds 70", "law love on land odds 20",
        "law land on love odds 90",
    };

    public static void main(String[] args) {
        facts();
        grafted();
        peaceAndFeud();
        led();
        sizes();
        C.end();
    }

    private static void facts() {
        GraftQuarrel x = Checks.of(BASE);
        int[][] due = {{0, 8, -2, 1, 0, 0, 0}, {1, 5, -2, 2, 0, 0, 0}, {2, 2, -2, 4, 0, 0, 0}, {3, 9, -2, 8, 1, 0, 0}};
        for (int q = 0; q < 4; q++) {
            for (int what = 0; what < 7; what++) {
                C.goes(x, "quarrel(" + q + ", " + what + ")", x.quarrel(q, what), due[q][what]);
            }
        }
        C.refused(x, "quarrel(-1, 0)", x.quarrel(-1, 0), -1, 1);
        C.refused(x, "quarrel(4, 0)", x.quarrel(4, 0), -1, 1);
        C.refused(x, "quarrel(0, -1)", x.quarrel(0, -1), -1, 1);
        C.refused(x, "quarrel(0, 7)", x.quarrel(0, 7), -1, 1);
        C.goes(x, "parties(2)", x.parties(2), 18);
        C.refused(x, "parties(-1)", x.parties(-1), -1, 1);
        C.refused(x, "parties(4)", x.parties(4), -1, 1);
        C.goes(x, "bound(0)", x.bound(0), 1);
        C.goes(x, "bound(2)", x.bound(2), 10);
        C.goes(x, "bound(4)", x.bound(4), 12);
        C.refused(x, "bound(-1)", x.bound(-1), -1, 1);
        C.refused(x, "bound(5)", x.bound(5), -1, 1);
        C.goes(x, "stand()", x.stand(), 4);
        C.refused(x, "feud(-1)", x.feud(-1), -1, 1);
        C.refused(x, "feud(5)", x.feud(5), -1, 1);
    }

    private static void grafted() {
        GraftQuarrel x = Checks.of(CHAIN);
        C.is("graft(0, 1)", x.graft(0, 1), 11);
        C.is("its KIND as told", x.quarrel(0, 0), 0);
        C.is("its vigour", x.quarrel(0, 1), 0);
        C.is("on which", x.quarrel(0, 2), 1);
        C.is("its KINDS", x.quarrel(0, 3), 0);
        C.is("KINDS of the stock", x.quarrel(1, 3), 3);
        C.goes(x, "its PARTIES", x.parties(0), 0);
        C.is("PARTIES of the stock", x.parties(1), 15);
        C.is("stand()", x.stand(), 2);
        C.is("bound(0)", x.bound(0), 2);
        C.is("graft(1, 2)", x.graft(1, 2), 10);
        C.is("the first is on the one that stands", x.quarrel(0, 2), 2);
        C.is("the second likewise", x.quarrel(1, 2), 2);
        C.is("KINDS of all", x.quarrel(2, 3), 7);
        C.is("PARTIES of all", x.parties(2), 63);
        C.is("stand()", x.stand(), 1);
        C.is("bound(0)", x.bound(0), 4);
    }

    private static void peaceAndFeud() {
        GraftQuarrel x = Checks.of("family a people 1", "family b people 1", "family c people 1",
                "family d people 1", "family e people 1", "quarrel p land of a b vigour 0",
                "quarrel q word of b c vigour 1", "quarrel r word of d c vigour 0", "law land on word odds 9");
        C.goes(x, "peace()", x.peace(), 1 + 8 + 16);
        C.goes(x, "feud(0)", x.feud(0), 15);
        C.is("feud(3)", x.feud(3), 15);
        C.is("feud(4)", x.feud(4), 16);
        C.is("cut", x.cut(1, 1), 2);
        C.is("peace() of all", x.peace(), 31);
        C.is("feud(0) without vigour", x.feud(0), 15);
        C.is("nourish", x.nourish(2, 1), 1);
        C.is("graft", x.graft(0, 2), 1);
        C.is("PARTIES of it are not at peace", x.peace(), 16);
    }

    private static void led() {
        GraftQuarrel x = Checks.of("family a people 1", "family b people 1", "quarrel p land of a b vigour 0",
                "quarrel q word of a b vigour 1", "quarrel r word of a b vigour 0");
        C.is("led(0)", x.led(0), 0);
        C.is("led(1)", x.led(1), 2);
        C.throwsNone(x, 2);
        C.throwsNone(x, -1);
        C.throwsNone(x, Integer.MAX_VALUE);
        C.throwsNone(x, Integer.MIN_VALUE);
        C.is("nourish", x.nourish(0, 1), 1);
        C.is("led(0) behind it", x.led(0), 2);
        GraftQuarrel y = Checks.of(CHAIN);
        C.is("graft", y.graft(0, 1), 11);
        C.throwsNone(y, 0);
    }

    private static void sizes() {
        GraftQuarrel x = Checks.of(BASE);
        int[] due = {3, 10, 5, 4, 3, 3, 2, 1, 0, 0, 0, 0, 0};
        x.undo();
        for (int what = 0; what < due.length; what++) {
            C.is("size(" + what + ")", x.size(what), due[what]);
        }
        C.is("size(-1)", x.size(-1), -1);
        C.is("size(13)", x.size(13), -1);
        C.is("size isn't among those that may be refused", x.trouble(), 6);
        x.season();
        x.cut(0, 2);
        x.image();
        x.feed(0, 0, 0, 0, 0);
        C.is("size(8)", x.size(8), 1);
        C.is("size(9)", x.size(9), 6);
        C.is("size(10)", x.size(10), 2);
        C.is("size(11)", x.size(11), 1);
        C.is("size(12)", x.size(12), 20);
    }
}
