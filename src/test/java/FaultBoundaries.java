/** Boundary cases of promises 4 and 5: FAULTS and their places. */
final class FaultBoundaries {
    private static final String V = TextBoundaries.V;
    private static final String AB = TextBoundaries.AB;
    private static final String Q = TextBoundaries.Q;
    private static final String[] FIRST = {"valley", "family", "quarrel", "law", "deed", "pot", "fell"};

    private FaultBoundaries() {
    }

    // ---- promise 4: which fault

    static void promise04WithoutAValley(Checks c) {
        GraftQuarrel x = new GraftQuarrel();
        c.is("fault()", x.fault(), 0);
        c.refused(x, "valley(1)", x.valley(1), -1, 2);
        c.is("fault() behind a number", x.fault(), 0);
    }

    static void promise04BehindAGoodValley(Checks c) {
        GraftQuarrel x = new GraftQuarrel();
        Checks.tell(x, "hello");
        c.is("fault()", x.fault(), 1);
        Checks.tell(x, Q);
        c.is("fault() behind a good one", x.fault(), 0);
    }

    static void promise04StaysBehindANumber(Checks c) {
        GraftQuarrel x = new GraftQuarrel();
        Checks.tell(x, V);
        c.is("fault()", x.fault(), 6);
        c.refused(x, "valley(1)", x.valley(1), -1, 2);
        c.is("fault() behind valley(1)", x.fault(), 6);
        c.refused(x, "valley(-1)", x.valley(-1), -1, 2);
        c.is("fault() behind valley(-1)", x.fault(), 6);
    }

    static void promise04NoneStaysBehindANumber(Checks c) {
        GraftQuarrel x = Checks.ofText(Q);
        c.refused(x, "valley(1)", x.valley(1), -1, 2);
        c.is("fault()", x.fault(), 0);
    }

    static void promise04StaysBehindOtherCalls(Checks c) {
        GraftQuarrel x = Checks.ofText(Q);
        Checks.tell(x, V + ";valley");
        x.season();
        x.undo();
        x.quarrel(9, 9);
        x.feed(0, 0, 0, 0, 0);
        c.is("fault()", x.fault(), 3);
    }

    static void promise04TheFirstFromTheLeft(Checks c) {
        c.bad(4, V + ";family a people |0;?;family 7;valley");
        c.bad(3, AB + ";family |a people 0 people ?");
        c.bad(2, AB + ";quarrel q love of |z a vigour 99");
        c.bad(5, Q + TextBoundaries.times(4, "family # people 1") + ";|family a people 0");
        c.bad(6, "|family family people 0");
        c.bad(1, "valley winter |winter winter 10");
        c.bad(6, "|pot q;" + Q);
    }

    static void promise04OfOnePlaceTheLeast(Checks c) {
        // The end: a LINE is cut off, and there is no quarrel.
        c.bad(1, V + ";|");
        c.bad(1, V + ";family|");
        c.bad(1, V + ";family a people|");
        // A WORD that begins no LINE, ahead of the valley.
        c.bad(1, "|hello");
        c.bad(1, "|winter 1");
        // A WORD that is no NAME, and isn't told.
        c.bad(1, Q + ";pot |deed");
        c.bad(1, AB + ";quarrel q love of a |family");
        // Too many digits, and too great.
        c.bad(1, "valley winter |1000");
        // A second valley, and more of its sort than there is room for.
        c.bad(3, V + ";|valley");
    }

    static void promise04FormAByteThatBeginsNoToken(Checks c) {
        c.bad(1, "|?");
        c.bad(1, V + " |? ;family a people 1");
        c.bad(1, Q + ";|?");
        c.bad(1, Q + "  |?");
        // Where a WHOLE from 4, or from 1, must stand.
        c.bad(1, "valley winter 1 bears |?");
        c.bad(1, V + ";family a people |!");
    }

    static void promise04FormWordsThatAreAlmostRight(Checks c) {
        String full = Q + ";law love on debt odds 1;deed q season 1 feeds 1;pot q;fell q season 1";
        for (String word : new String[] {"valley", "winter", "bears", "coins", "family", "people", "quarrel", "love",
            "of", "vigour", "law", "on", "debt", "odds", "deed", "season", "feeds", "pot", "fell"}) {
            String ahead = full.substring(0, placeOf(full, word));
            String behind = full.substring(ahead.length() + word.length());
            c.bad(1, ahead + "|z" + word.substring(1) + behind);
            c.bad(1, ahead + "|" + word.substring(0, word.length() - 1) + "z" + behind);
            c.bad(1, ahead + "|" + word.substring(1) + behind);
            c.bad(1, ahead + "|" + word.substring(0, word.length() - 1) + behind);
            c.bad(1, ahead + "|" + word + "z" + behind);
            c.bad(1, ahead + "|" + word.toUpperCase() + behind);
        }
    }

    /** Where a word first stands by itself. */
    private static int placeOf(String text, String word) {
        java.util.regex.Matcher m = java.util.regex.Pattern.compile("\\b" + word + "\\b").matcher(text);
        return m.find() ? m.start() : -1;
    }

    static void promise04NamesAreWholeWords(Checks c) {
        // Each differs from the others at its beginning, its end, or by its length alone.
        c.good(3, V + ";family b people 1;family bc people 1;family c people 1;family cb people 1;family bb people 1"
                + ";family cc people 1;quarrel bcb love of b bc vigour 1;quarrel aab love of c cb vigour 1"
                + ";quarrel baa love of bb cc vigour 1");
        GraftQuarrel x = Checks.ofText(V + ";family b people 1;family bc people 1;family c people 1"
                + ";family cb people 1;quarrel q love of c bc vigour 1;quarrel qq love of cb b vigour 1;pot qq");
        c.is("its PARTIES", x.parties(0), 6);
        c.is("the other one's", x.parties(1), 9);
        c.is("the one that is potted", x.quarrel(1, 4), 1);
        c.bad(2, V + ";family bc people 1;family bb people 1;quarrel q love of bc |b vigour 1");
        c.bad(2, V + ";family bc people 1;family bb people 1;quarrel q love of bc |c vigour 1");
    }

    static void promise04FormATokenThatDoesNotGoOn(Checks c) {
        c.bad(1, "|7");
        c.bad(1, "valley |bears 5");
        c.bad(1, "valley winter |bears");
        c.bad(1, "valley winter 1 |coins");
        c.bad(1, "valley winter 1 bears |;");
        c.bad(1, "valley winter 1 bears 5 |1");
        c.bad(1, V + ";family |1");
        c.bad(1, V + ";family a |1");
        c.bad(1, V + ";family a people |many");
        c.bad(1, AB + ";quarrel |7");
        c.bad(1, AB + ";quarrel q |7");
        c.bad(1, AB + ";quarrel q love |a b");
        c.bad(1, AB + ";quarrel q love of |7");
        c.bad(1, AB + ";quarrel q love of a |;");
        c.bad(1, AB + ";quarrel q love of a b |9");
        c.bad(1, AB + ";quarrel q love of a b vigour |x");
        c.bad(1, Q + ";law |7");
        c.bad(1, Q + ";law love |love");
        c.bad(1, Q + ";law love on |7");
        c.bad(1, Q + ";law love on love |5");
        c.bad(1, Q + ";law love on love odds |x");
        c.bad(1, Q + ";pot |7");
        c.bad(1, Q + ";pot q |q");
        c.bad(1, Q + ";deed |;");
        c.bad(1, Q + ";deed q |1");
        c.bad(1, Q + ";deed q season |x");
        c.bad(1, Q + ";deed q season 1 |9");
        c.bad(1, Q + ";deed q season 1 feeds |x");
        c.bad(1, Q + ";fell |1");
        c.bad(1, Q + ";fell q |1");
        c.bad(1, Q + ";fell q season |x");
        c.bad(1, Q + ";fell q season 1 |feeds 1");
    }

    static void promise04FormTheEnd(Checks c) {
        String[] cutOff = {"valley", "valley winter", "valley winter 1", "valley winter 1 bears",
            "valley winter 1 bears 5", "valley winter 1 bears 5 coins", "valley winter 1 bears 5 coins 1 1 1",
            V + ";", V + ";family", V + ";family a", V + ";family a people", Q + ";quarrel", Q + ";quarrel r",
            Q + ";quarrel r love", Q + ";quarrel r love of", Q + ";quarrel r love of a",
            Q + ";quarrel r love of a b", Q + ";quarrel r love of a b vigour", Q + ";law", Q + ";law love",
            Q + ";law love on", Q + ";law love on love", Q + ";law love on love odds", Q + ";deed", Q + ";deed q",
            Q + ";deed q season", Q + ";deed q season 1", Q + ";deed q season 1 feeds", Q + ";pot", Q + ";fell",
            Q + ";fell q", Q + ";fell q season"};
        for (String text : cutOff) {
            c.bad(1, text + "|");
        }
    }

    static void promise04FormWordsThatAreNoNames(Checks c) {
        for (String word : FIRST) {
            c.bad(1, V + ";family |" + word + " people 1");
            c.bad(1, AB + ";quarrel |" + word + " love of a b vigour 1");
            c.bad(1, AB + ";quarrel q love of |" + word);
            c.bad(1, AB + ";quarrel q love of a |" + word);
            c.bad(1, Q + ";deed |" + word);
            c.bad(1, Q + ";pot |" + word);
            c.bad(1, Q + ";fell |" + word);
        }
    }

    static void promise04ANameThatIsNotTold(Checks c) {
        c.bad(2, AB + ";quarrel q love of |z b vigour 1");
        c.bad(2, AB + ";quarrel q love of a |z vigour 1");
        c.bad(2, Q + ";deed |z season 1 feeds 1");
        c.bad(2, Q + ";pot |z");
        c.bad(2, Q + ";fell |z season 1");
        c.bad(2, Q + ";pot |qq");
        c.bad(2, AB + ";quarrel q love of |aa b vigour 1");
    }

    static void promise04ANameToldOnlyBehindItsUse(Checks c) {
        c.bad(2, AB + ";deed |q season 1 feeds 1;quarrel q love of a b vigour 1");
        c.bad(2, V + ";family a people 1;quarrel q love of a |b vigour 1;family b people 1");
        c.bad(2, AB + ";quarrel q love of |q a vigour 1");
    }

    static void promise04ANameOfAnotherSort(Checks c) {
        c.bad(2, Q + ";quarrel r love of |q a vigour 1");
        c.bad(2, Q + ";quarrel r love of a |q vigour 1");
        c.bad(2, Q + ";deed |a season 1 feeds 1");
        c.bad(2, Q + ";pot |b");
        c.bad(2, Q + ";fell |a season 1");
    }

    static void promise04ANameToldAgain(Checks c) {
        c.bad(3, AB + ";family |a people 1");
        c.bad(3, AB + ";family |b people 1");
        c.bad(3, Q + ";quarrel |q love of a b vigour 1");
        c.bad(3, Q + ";family |q people 1");
        c.bad(3, Q + ";quarrel |a love of a b vigour 1");
        c.bad(3, V + ";family abcdefgh people 1;family |abcdefgh people 1");
    }

    static void promise04ASecondFamilyThatIsTheFirst(Checks c) {
        c.bad(3, AB + ";quarrel q love of a |a vigour 1");
        c.bad(3, AB + ";quarrel q love of b |b vigour 1");
    }

    static void promise04ALawOfTheseTwoKinds(Checks c) {
        c.bad(3, Q + ";law love on word odds 1;law love on |word odds 2");
        c.bad(3, Q + ";law debt on debt odds 100;law land on word odds 1;law debt on |debt odds 100");
        c.bad(3, Q + ";law land on debt odds 1;law debt on land odds 1;law debt on |land");
    }

    static void promise04AQuarrelPottedAlready(Checks c) {
        c.bad(3, Q + ";pot q;pot |q");
        c.bad(3, Q + ";quarrel r love of a b vigour 1;pot r;pot q;pot |r");
    }

    static void promise04AFruitThatFellAlready(Checks c) {
        c.bad(3, Q + ";fell q season 0;fell q season |0");
        c.bad(3, Q + ";fell q season 1;fell q season 23;fell q season |023");
    }

    static void promise04ASecondValley(Checks c) {
        c.bad(3, V + ";|valley winter 1");
        c.bad(3, Q + ";|" + V);
    }

    static void promise04ManyAtTheFirstWord(Checks c) {
        c.bad(5, Q + TextBoundaries.times(4, "family # people 1") + "; |family");
        c.bad(5, Q + TextBoundaries.times(5, "quarrel # love of a b vigour 1") + "; |quarrel ?");
        c.bad(5, Q + TextBoundaries.times(12, "deed q season 1 feeds 1") + "; |deed 9");
        c.bad(5, Q + TextBoundaries.times(6, "fell q season $") + "; |fell q season 0");
    }

    static void promise04LacksAheadOfTheValley(Checks c) {
        for (String word : FIRST) {
            if (!word.equals("valley")) {
                c.bad(6, "|" + word);
                c.bad(6, "   |" + word + " x;" + V);
            }
        }
    }

    static void promise04LacksAtTheEnd(Checks c) {
        c.bad(6, V + "|");
        c.bad(6, V + ";law love on love odds 1|");
        c.bad(6, V + ";family a people 1|");
        c.bad(6, AB + "|");
        c.bad(6, AB + "     |");
    }

    // ---- promise 5

    static void promise05PlacesAreCountedFromNone(Checks c) {
        GraftQuarrel x = new GraftQuarrel();
        Checks.tell(x, "?");
        c.is("the first byte", x.where(), 0);
        Checks.tell(x, " ".repeat(899) + "?");
        c.is("the last byte", x.where(), 899);
    }

    static void promise05ThePlaceOfTheEnd(Checks c) {
        GraftQuarrel x = new GraftQuarrel();
        Checks.put(x, V);
        x.valley(V.length());
        c.is("behind the last byte", x.where(), V.length());
        Checks.put(x, " ".repeat(900));
        x.valley(900);
        c.is("behind all of THE TAPE", x.where(), 900);
        Checks.put(x, V);
        x.valley(9);
        c.is("in the middle of THE TAPE", x.where(), 7);
        Checks.put(x, V);
        x.valley(7);
        c.is("behind a blank", x.where(), 7);
    }

    static void promise05NoneWithoutAFault(Checks c) {
        GraftQuarrel x = new GraftQuarrel();
        c.is("of a new one", x.where(), -1);
        Checks.tell(x, Q);
        c.is("behind a good valley", x.where(), -1);
    }

    static void promise05NoneBehindANumber(Checks c) {
        GraftQuarrel x = new GraftQuarrel();
        Checks.tell(x, V);
        c.is("where()", x.where(), V.length());
        x.valley(1);
        c.is("behind valley(1)", x.where(), -1);
    }

    static void promise05NoneBehindAnotherThatIsRefused(Checks c) {
        GraftQuarrel x = new GraftQuarrel();
        Checks.tell(x, V);
        x.undo();
        c.is("behind undo()", x.where(), -1);
    }

    static void promise05NoneBehindAnotherThatIsNot(Checks c) {
        GraftQuarrel x = Checks.ofText(Q);
        Checks.tell(x, V);
        c.is("where()", x.where(), V.length());
        x.stand();
        c.is("behind stand()", x.where(), -1);
    }

    static void promise05StaysBehindCallsThatMayNotBeRefused(Checks c) {
        GraftQuarrel x = new GraftQuarrel();
        Checks.tell(x, V);
        x.feed(0, 0, 0, 0, 0);
        x.fault();
        x.where();
        x.size(0);
        x.size(99);
        x.trouble();
        c.throwsNone(x, 0);
        c.is("where()", x.where(), V.length());
    }
}
