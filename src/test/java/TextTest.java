/** Promises 1 to 5: a new object, THE TAPE, the text's form and its FAULTS. */
public final class TextTest {
    private static final Checks C = new Checks("TextTest");
    private static final String V = "valley winter 1 bears 5 coins 1 1 1 1";
    private static final String AB = V + ";family a people 1;family b people 1";
    private static final String Q = AB + ";quarrel q love of a b vigour 1";

    public static void main(String[] args) {
        newObject();
        tape();
        numbers();
        goodTexts();
        form();
        names();
        toldAgain();
        bounds();
        many();
        lacks();
        faultAndWhere();
        whatStays();
        C.end();
    }

    private static void newObject() {
        GraftQuarrel x = new GraftQuarrel();
        C.is("trouble() of a new one", x.trouble(), 0);
        C.is("fault() of a new one", x.fault(), 0);
        C.is("where() of a new one", x.where(), -1);
        for (int what = 0; what <= 12; what++) {
            C.is("size(" + what + ") of a new one", x.size(what), 0);
        }
        C.refused(x, "quarrel(0, 0) of a new one", x.quarrel(0, 0), -1, 1);
        C.refused(x, "parties(0)", x.parties(0), -1, 1);
        C.refused(x, "bound(0)", x.bound(0), -1, 1);
        C.refused(x, "peace()", x.peace(), -1, 1);
        C.refused(x, "stand()", x.stand(), -1, 1);
        C.refused(x, "feud(0)", x.feud(0), -1, 1);
        C.refused(x, "vigour(0, 99)", x.vigour(0, 99), -1, 1);
        C.refused(x, "fruits(0, 99)", x.fruits(0, 99), -1, 1);
        C.refused(x, "first(0)", x.first(0), -1, 1);
        C.refused(x, "fallen(99)", x.fallen(99), -1, 1);
        C.refused(x, "suckers(99)", x.suckers(99), -1, 1);
        C.refused(x, "quiet(99)", x.quiet(99), -1, 1);
        C.refused(x, "peaceBy()", x.peaceBy(), -1, 1);
        C.refused(x, "worst(99)", x.worst(99), -1, 1);
        C.refused(x, "spared(0, 99)", x.spared(0, 99), -100, 1);
        C.refused(x, "odds(0, 0)", x.odds(0, 0), -1, 1);
        C.refused(x, "grafted(0, 1, 99)", x.grafted(0, 1, 99), -1, 1);
        C.refused(x, "bestGraft(99)", x.bestGraft(99), -1, 1);
        C.refused(x, "left()", x.left(), -1, 1);
        C.refused(x, "surest(false)", x.surest(false), -1, 1);
        C.refused(x, "takes(true)", x.takes(true), -1, 1);
        C.refused(x, "surestAt(0)", x.surestAt(0), -1, 1);
        C.refused(x, "prune(0, 99)", x.prune(0, 99), -1, 1);
        C.refused(x, "pruneAt(0, 99, 0)", x.pruneAt(0, 99, 0), -1, 1);
        C.refused(x, "feedFor(0, 99)", x.feedFor(0, 99), -1, 1);
        C.refused(x, "feedAgainst(0, 99, 0)", x.feedAgainst(0, 99, 0), -1, 1);
        C.refused(x, "share(0, 0, -1)", x.share(0, 0, -1), -1, 1);
        C.refused(x, "game(0, 9, 9, false)", x.game(0, 9, 9, false), -100, 1);
        C.refused(x, "rests(0)", x.rests(0), -1, 1);
        C.refused(x, "rest(0)", x.rest(0), -1, 1);
        C.refused(x, "ways()", x.ways(), -1, 1);
        C.refused(x, "wayAt(0)", x.wayAt(0), -1, 1);
        C.refused(x, "judge()", x.judge(), -1, 1);
        C.refused(x, "year(-1)", x.year(-1), -1, 1);
        C.refused(x, "years(-1, 99)", x.years(-1, 99), -1, 1);
        C.refused(x, "graft(0, 1)", x.graft(0, 1), -1, 1);
        C.refused(x, "nourish(0, 99)", x.nourish(0, 99), -1, 1);
        C.refused(x, "cut(0, 99)", x.cut(0, 99), -1, 1);
        C.refused(x, "season()", x.season(), -1, 1);
        C.refused(x, "undo()", x.undo() ? 1 : 0, 0, 6);
        C.refused(x, "image()", x.image(), -1, 1);
        C.refused(x, "back(0)", x.back(0) ? 1 : 0, 0, 1);
        C.throwsNone(x, 0);
        C.is("trouble() behind led", x.trouble(), 1);
    }

    private static void tape() {
        GraftQuarrel x = new GraftQuarrel();
        x.undo();
        for (int i = 1; i <= 45; i++) {
            C.is("feed the " + i + "th time", x.feed(0, 0, 0, 0, 0), 20 * i);
        }
        C.is("feed beyond 900", x.feed(0, 0, 0, 0, 0), -1);
        C.is("size(12)", x.size(12), 900);
        C.is("feed isn't among those that may be refused", x.trouble(), 6);
        C.refused(x, "valley(901)", x.valley(901), -1, 2);
        C.refused(x, "valley(-1)", x.valley(-1), -1, 2);
        C.is("THE TAPE stays", x.size(12), 900);
        C.refused(x, "valley(900)", x.valley(900), -1, 4);
        C.is("THE TAPE is empty", x.size(12), 0);
        C.is("feed goes on", x.feed(0, 0, 0, 0, 0), 20);
    }

    private static void numbers() {
        GraftQuarrel x = new GraftQuarrel();
        C.refused(x, "valley(0) of an empty TAPE", x.valley(0), -1, 4);
        C.is("fault of no text", x.fault(), 1);
        C.is("where of no text", x.where(), 0);
        Checks.put(x, Q + ";;;;");
        C.goes(x, "only the first n bytes", x.valley(Q.length()), 1);
        C.is("what is behind them is gone", x.size(12), 0);
        GraftQuarrel full = new GraftQuarrel();
        StringBuilder text = new StringBuilder(Q);
        while (text.length() < 900) {
            text.append(' ');
        }
        C.goes(full, "900 bytes", Checks.tell(full, text.toString()), 1);
    }

    private static void goodTexts() {
        C.good(1, Q);
        C.good(1, "  " + Q.replace(" ", "   ") + "  ");
        C.good(1, Q.replace(";", " ; "));
        C.good(1, "valley winter0bears04coins1 1 001 9;family a people99;family b people1;"
                + "quarrel q debt of b a vigour30");
        C.good(1, V + ";family winter people 1;family land people 2;quarrel of word of winter land vigour 0"
                + ";pot of;deed of season 23 feeds 9;fell of season 0");
        C.good(1, V + ";family abcdefgh people 1;family abcdefg people 1;"
                + "quarrel z land of abcdefg abcdefgh vigour 3");
        C.good(1, Q + ";law love on love odds 1;law love on word odds 100;law word on love odds 5");
        C.good(1, Q + ";deed q season 0 feeds 1;deed q season 0 feeds 1;pot q");
        C.good(2, Q + ";quarrel r love of a b vigour 1;fell q season 5;fell r season 5;fell q season 6");
    }

    private static void form() {
        C.bad(1, "|");
        C.bad(1, "   |");
        C.bad(1, "|;");
        C.bad(1, "|7");
        C.bad(1, "|hello");
        C.bad(1, "|Valley");
        C.bad(1, "valley|");
        C.bad(1, "valley |7");
        C.bad(1, "valley winter |x");
        C.bad(1, "valley winter 1 bears |?");
        C.bad(1, "valley winter 1 bears |/");
        C.bad(1, "valley winter 1 bears |:");
        C.bad(1, "valley winter 1 bears 5 coins 1 1 1|");
        C.bad(1, "valley winter 1 bears 5 coins 1 1 1|;");
        C.bad(1, V + " |1");
        C.bad(1, V + ";|");
        C.bad(1, V + ";|;family a people 1");
        C.bad(1, Q + "  ;  |");
        C.bad(1, Q + " |q");
        C.bad(1, V + "; family |abcdefghi people 1");
        C.bad(1, V + "; family a people |1000");
        C.bad(1, V + "; family a people |0001");
        C.bad(1, V + "; family |A people 1");
        C.bad(1, V + "; family a|\u00e9 people 1");
        C.bad(1, V + "|,family a people 1");
        C.bad(1, V + "|\n;family a people 1");
        C.bad(1, V + "; family |7");
        C.bad(1, V + "; family a |persons");
        C.bad(1, V + "; family a people |many");
        for (String word : new String[] {"valley", "family", "quarrel", "law", "deed", "pot", "fell"}) {
            C.bad(1, V + ";family |" + word + " people 1");
            C.bad(1, AB + ";quarrel |" + word + " love of a b vigour 1");
            C.bad(1, AB + ";quarrel q love of |" + word);
            C.bad(1, AB + ";quarrel q love of a |" + word);
            C.bad(1, Q + ";pot |" + word);
            C.bad(1, Q + ";deed |" + word);
            C.bad(1, Q + ";fell |" + word);
        }
        C.bad(1, AB + ";quarrel q |hate");
        C.bad(1, AB + ";quarrel q |of");
        C.bad(1, AB + ";quarrel q love |a");
        C.bad(1, AB + ";quarrel q love of a b |1");
        C.bad(1, AB + ";quarrel q love of a b vigour|");
        C.bad(1, Q + ";law |hate on love odds 1");
        C.bad(1, Q + ";law love |off");
        C.bad(1, Q + ";law love on |hate");
        C.bad(1, Q + ";law love on love |1");
        C.bad(1, Q + ";law love on love odds |;");
        C.bad(1, Q + ";deed q |feeds 1");
        C.bad(1, Q + ";deed q season 1 |1");
        C.bad(1, Q + ";fell q |1");
        C.bad(1, Q + ";fell q season 1 |feeds");
        C.bad(1, Q + ";pot q |season");
        C.bad(1, Q + ";|winter");
    }

    private static void names() {
        C.bad(2, AB + ";quarrel q love of |c b vigour 1");
        C.bad(2, AB + ";quarrel q love of a |c vigour 1");
        C.bad(2, AB + ";quarrel q love of |q b vigour 1");
        C.bad(2, Q + ";quarrel r love of a |q vigour 1");
        C.bad(2, AB + ";deed |q season 1 feeds 1");
        C.bad(2, Q + ";deed |a season 1 feeds 1");
        C.bad(2, Q + ";pot |r");
        C.bad(2, Q + ";pot |b");
        C.bad(2, Q + ";fell |qq season 1");
        C.bad(2, Q + ";fell |a season 1");
    }

    private static void toldAgain() {
        C.bad(3, V + ";|valley");
        C.bad(3, Q + ";|valley winter 1");
        C.bad(3, AB + ";family |a people 1");
        C.bad(3, Q + ";family |q people 1");
        C.bad(3, Q + ";quarrel |q love of a b vigour 1");
        C.bad(3, Q + ";quarrel |a love of a b vigour 1");
        C.bad(3, AB + ";quarrel q love of a |a vigour 1");
        C.bad(3, AB + ";quarrel q love of b |b 1");
        C.bad(3, Q + ";law love on word odds 1;law word on love odds 1;law love on |word odds 2");
        C.bad(3, Q + ";law debt on debt odds 1;law debt on |debt");
        C.bad(3, Q + ";pot q;pot |q");
        C.bad(3, Q + ";fell q season 4;fell q season |4");
        C.bad(3, Q + ";fell q season 4;fell q season |04");
    }

    private static void bounds() {
        C.bad(4, "valley winter |10 bears 5");
        C.bad(4, "valley winter 1 bears |3");
        C.bad(4, "valley winter 1 bears |31");
        C.bad(4, "valley winter 1 bears 30 coins |0");
        C.bad(4, "valley winter 1 bears 30 coins 1 |10");
        C.bad(4, "valley winter 1 bears 30 coins 1 1 |0");
        C.bad(4, "valley winter 1 bears 30 coins 1 1 1 |999");
        C.bad(4, V + ";family a people |0");
        C.bad(4, V + ";family a people |100");
        C.bad(4, AB + ";quarrel q love of a b vigour |31");
        C.bad(4, Q + ";law love on love odds |0");
        C.bad(4, Q + ";law love on love odds |101");
        C.bad(4, Q + ";deed q season |24");
        C.bad(4, Q + ";deed q season 23 feeds |0");
        C.bad(4, Q + ";deed q season 23 feeds |10");
        C.bad(4, Q + ";fell q season |24");
    }

    private static String times(int n, String line) {
        StringBuilder text = new StringBuilder();
        for (int i = 0; i < n; i++) {
            text.append(';').append(line.replace('#', (char) ('k' + i)).replace("$", "" + i));
        }
        return text.toString();
    }

    private static void many() {
        C.good(1, Q + times(4, "family # people 1"));
        C.bad(5, Q + times(4, "family # people 1") + ";|family z people 1");
        C.bad(5, Q + times(4, "family # people 1") + ";|family");
        C.good(6, AB + times(6, "quarrel # love of a b vigour 1"));
        C.bad(5, AB + times(6, "quarrel # love of a b vigour 1") + ";|quarrel 7");
        String laws = ";law land on land odds 1;law land on word odds 1;law land on love odds 1"
                + ";law land on debt odds 1;law word on land odds 1;law word on word odds 1"
                + ";law word on love odds 1;law word on debt odds 1;law love on land odds 1"
                + ";law love on word odds 1";
        C.good(1, Q + laws);
        C.bad(5, Q + laws + ";|law love on land");
        C.good(1, Q + times(12, "deed q season $ feeds 1"));
        C.bad(5, Q + times(12, "deed q season $ feeds 1") + ";|deed x");
        C.good(1, Q + times(6, "fell q season $"));
        C.bad(5, Q + times(6, "fell q season $") + "; |fell q season 9");
    }

    private static void lacks() {
        C.bad(6, "|family a people 1");
        C.bad(6, "|quarrel");
        C.bad(6, " |law");
        C.bad(6, "|deed");
        C.bad(6, "|pot x");
        C.bad(6, "|fell");
        C.bad(6, V + "|");
        C.bad(6, V + "   |");
        C.bad(6, AB + "|");
        C.bad(6, AB + ";law love on love odds 1|");
    }

    private static void faultAndWhere() {
        GraftQuarrel x = new GraftQuarrel();
        Checks.tell(x, V + ";family 7");
        C.is("fault", x.fault(), 1);
        C.is("where", x.where(), V.length() + 8);
        C.is("size isn't among those", x.size(3), 0);
        C.is("where stays behind it", x.where(), V.length() + 8);
        x.feed(0, 0, 0, 0, 0);
        C.is("where stays behind feed", x.where(), V.length() + 8);
        C.refused(x, "valley(99)", x.valley(99), -1, 2);
        C.is("fault of the one before", x.fault(), 1);
        C.is("where is gone", x.where(), -1);
        C.refused(x, "valley of zeros", x.valley(20), -1, 4);
        C.is("where is new", x.where(), 0);
        x.peace();
        C.is("where is gone behind peace()", x.where(), -1);
        C.is("fault stays behind peace()", x.fault(), 1);
        C.is("a good one", Checks.tell(x, Q), 1);
        C.is("fault is gone", x.fault(), 0);
    }

    private static void whatStays() {
        GraftQuarrel x = Checks.ofText(Q + ";pot q");
        C.is("nourish", x.nourish(0, 9), 10);
        C.is("season", x.season(), 1);
        C.is("cut", x.cut(0, 2), 2);
        C.is("image", x.image(), 0);
        C.refused(x, "a faulty valley", Checks.tell(x, AB + ";quarrel q debt of b a vigour 7"
                + ";law love on land odds 3;law"), -1, 4);
        C.is("it stays: kind", x.quarrel(0, 0), 2);
        C.is("it stays: vigour", x.quarrel(0, 1), 3);
        C.is("it stays: laws", x.size(4), 0);
        C.is("it stays: season", x.size(8), 1);
        C.is("it stays: paid", x.size(9), 2);
        C.is("it stays: acts", x.size(10), 3);
        C.is("it stays: images", x.size(11), 1);
        C.goes(x, "another valley", Checks.tell(x, AB + ";quarrel q debt of b a vigour 7"), 1);
        C.is("it is new: kind", x.quarrel(0, 0), 3);
        C.is("it is new: vigour", x.quarrel(0, 1), 7);
        C.is("it is new: fruits", x.quarrel(0, 5), 0);
        C.is("it is new: pots", x.size(7), 0);
        C.is("it is new: season", x.size(8), 0);
        C.is("it is new: paid", x.size(9), 0);
        C.is("it is new: acts", x.size(10), 0);
        C.is("it is new: images", x.size(11), 0);
        C.refused(x, "undo", x.undo() ? 1 : 0, 0, 6);
        C.refused(x, "back(0)", x.back(0) ? 1 : 0, 0, 1);
    }
}
