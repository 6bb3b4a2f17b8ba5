/** Boundary cases of promises 1 to 3: a new object, THE TAPE, texts that are a VALLEY. */
final class TextBoundaries {
    static final String V = "valley winter 1 bears 5 coins 1 1 1 1";
    static final String AB = V + ";family a people 1;family b people 1";
    static final String Q = AB + ";quarrel q love of a b vigour 1";

    private TextBoundaries() {
    }

    static void promise01NoValley(Checks c) {
        GraftQuarrel x = new GraftQuarrel();
        for (int what = 0; what <= 12; what++) {
            c.is("size(" + what + ")", x.size(what), 0);
        }
        c.is("trouble()", x.trouble(), 0);
        c.refused(x, "stand()", x.stand(), -1, 1);
        c.refused(x, "quarrel(0, 0)", x.quarrel(0, 0), -1, 1);
        c.refused(x, "bound(0)", x.bound(0), -1, 1);
    }

    static void promise01EachObjectIsItsOwn(Checks c) {
        GraftQuarrel x = Checks.ofText(Q);
        GraftQuarrel y = new GraftQuarrel();
        c.refused(y, "peace() of the other", y.peace(), -1, 1);
        c.is("its TAPE", y.feed(0, 0, 0, 0, 0), 20);
        c.is("the first one's TAPE", x.size(12), 0);
        c.goes(x, "the first one's quarrels", x.stand(), 1);
    }

    // ---- promise 2

    static void promise02TwentyBytesComeBehind(Checks c) {
        GraftQuarrel x = new GraftQuarrel();
        c.is("feed", x.feed(1, 2, 3, 4, 5), 20);
        c.is("feed", x.feed(1, 2, 3, 4, 5), 40);
        c.is("size(12)", x.size(12), 40);
    }

    static void promise02TheHighestByteFirst(Checks c) {
        // One digit among blanks is a FAULT at its place: that tells where each byte comes.
        int blanks = 0x20202020;
        for (int at = 0; at < 20; at++) {
            int[] five = {blanks, blanks, blanks, blanks, blanks};
            five[at / 4] = blanks & ~(0xff << 24 - at % 4 * 8) | '9' << 24 - at % 4 * 8;
            GraftQuarrel x = new GraftQuarrel();
            x.feed(five[0], five[1], five[2], five[3], five[4]);
            c.refused(x, "valley", x.valley(20), -1, 4);
            c.is("the place of byte " + at, x.where(), at);
        }
    }

    static void promise02NumbersBelowNoneAreBytesToo(Checks c) {
        GraftQuarrel x = new GraftQuarrel();
        c.is("feed", x.feed(-1, Integer.MIN_VALUE, Integer.MAX_VALUE, -2, 0), 20);
        c.refused(x, "valley", x.valley(20), -1, 4);
        c.is("fault()", x.fault(), 1);
        c.is("where()", x.where(), 0);
        // The letter v with its highest bit is no letter.
        c.bad(1, "|\u00f6alley winter 1");
    }

    static void promise02NineHundredFit(Checks c) {
        GraftQuarrel x = new GraftQuarrel();
        for (int i = 1; i <= 45; i++) {
            c.is("feed", x.feed(0, 0, 0, 0, 0), 20 * i);
        }
        c.is("size(12)", x.size(12), 900);
    }

    static void promise02MoreThanNineHundredDoNot(Checks c) {
        GraftQuarrel x = new GraftQuarrel();
        String text = Q + " ".repeat(900 - Q.length());
        Checks.put(x, text);
        c.is("feed", x.feed(-1, -1, -1, -1, -1), -1);
        c.is("feed again", x.feed(-1, -1, -1, -1, -1), -1);
        c.is("none comes", x.size(12), 900);
        c.goes(x, "what was there stays", x.valley(900), 1);
    }

    static void promise02ItIsFullUntilAValley(Checks c) {
        GraftQuarrel x = new GraftQuarrel();
        Checks.put(x, " ".repeat(900));
        c.is("full", x.feed(0, 0, 0, 0, 0), -1);
        x.valley(901);
        c.is("still full", x.feed(0, 0, 0, 0, 0), -1);
        x.valley(3);
        c.is("empty", x.feed(0, 0, 0, 0, 0), 20);
    }

    static void promise02NoNumberIsToldOfIt(Checks c) {
        GraftQuarrel x = new GraftQuarrel();
        Checks.put(x, " ".repeat(900));
        x.undo();
        c.is("feed that is refused", x.feed(0, 0, 0, 0, 0), -1);
        c.is("trouble() as before", x.trouble(), 6);
        x.valley(900);
        c.is("feed that isn't", x.feed(0, 0, 0, 0, 0), 20);
        c.is("trouble() as before", x.trouble(), 4);
        c.is("where() as before", x.where(), 900);
    }

    // ---- promise 3: its number

    static void promise03LessThanNoBytes(Checks c) {
        GraftQuarrel x = new GraftQuarrel();
        Checks.put(x, Q);
        int bytes = x.size(12);
        c.refused(x, "valley(-1)", x.valley(-1), -1, 2);
        c.refused(x, "valley of the least", x.valley(Integer.MIN_VALUE), -1, 2);
        c.is("THE TAPE stays", x.size(12), bytes);
        c.goes(x, "and can be read", x.valley(Q.length()), 1);
    }

    static void promise03MoreThanTheTapeHas(Checks c) {
        GraftQuarrel x = new GraftQuarrel();
        c.refused(x, "valley(1) of an empty TAPE", x.valley(1), -1, 2);
        Checks.put(x, Q);
        int bytes = x.size(12);
        c.refused(x, "one more", x.valley(bytes + 1), -1, 2);
        c.refused(x, "valley(900)", x.valley(900), -1, 2);
        c.refused(x, "valley of the greatest", x.valley(Integer.MAX_VALUE), -1, 2);
        c.is("THE TAPE stays", x.size(12), bytes);
        c.goes(x, "and can be read", x.valley(bytes), 1);
    }

    static void promise03AllThatTheTapeHas(Checks c) {
        GraftQuarrel x = new GraftQuarrel();
        Checks.put(x, Q + " ".repeat(900 - Q.length()));
        c.goes(x, "valley(900)", x.valley(900), 1);
    }

    static void promise03NoByteAtAll(Checks c) {
        GraftQuarrel x = new GraftQuarrel();
        c.refused(x, "valley(0) of an empty TAPE", x.valley(0), -1, 4);
        c.is("fault()", x.fault(), 1);
        c.is("where()", x.where(), 0);
        Checks.put(x, Q);
        c.refused(x, "valley(0) of a TAPE", x.valley(0), -1, 4);
        c.is("it is empty then", x.size(12), 0);
    }

    static void promise03OnlyTheFirstBytes(Checks c) {
        GraftQuarrel x = new GraftQuarrel();
        Checks.put(x, Q + "9;;quarrel");
        c.goes(x, "what is behind them isn't read", x.valley(Q.length()), 1);
        c.goes(x, "its vigour", x.quarrel(0, 1), 1);
        c.is("and is gone", x.size(12), 0);
        c.refused(x, "valley(1)", x.valley(1), -1, 2);
    }

    static void promise03AWordThatGoesOnBehindThem(Checks c) {
        GraftQuarrel x = new GraftQuarrel();
        Checks.put(x, Q + ";pot qqq");
        c.goes(x, "its first letter is the NAME", x.valley(Q.length() + 6), 1);
        c.is("potted", x.quarrel(0, 4), 1);
        String full = Q + " ".repeat(894 - Q.length()) + ";pot q";
        Checks.put(x, full);
        c.goes(x, "a word that ends with THE TAPE", x.valley(900), 1);
        c.is("potted", x.quarrel(0, 4), 1);
    }

    static void promise03NothingOfAnEarlierTape(Checks c) {
        GraftQuarrel x = Checks.ofText(Q);
        Checks.put(x, V + ";");
        c.refused(x, "a shorter text on a TAPE that was longer", x.valley(V.length()), -1, 4);
        c.is("fault()", x.fault(), 6);
        c.is("where()", x.where(), V.length());
    }

    static void promise03TheTapeIsEmptyBehindIt(Checks c) {
        GraftQuarrel x = new GraftQuarrel();
        c.is("valley", Checks.tell(x, Q), 1);
        c.is("THE TAPE", x.size(12), 0);
    }

    static void promise03TheTapeIsEmptyBehindAFault(Checks c) {
        GraftQuarrel x = new GraftQuarrel();
        c.refused(x, "valley", Checks.tell(x, "hello"), -1, 4);
        c.is("THE TAPE", x.size(12), 0);
    }

    static void promise03HowManyQuarrels(Checks c) {
        for (int n = 1; n <= 6; n++) {
            c.good(n, AB + times(n, "quarrel # love of a b vigour 1"));
        }
    }

    // ---- promise 3: what is from now on

    /** One in which something of all has been done. */
    private static GraftQuarrel used() {
        GraftQuarrel x = Checks.six(0, 4, "quarrel p land of a b vigour 9", "quarrel q word of c d vigour 9",
                "quarrel r love of e f vigour 3", "law land on word odds 7", "pot q", "deed p season 13 feeds 1",
                "fell q season 1");
        x.cut(1, 2);
        x.image();
        Checks.pass(x, 12);
        x.nourish(0, 5);
        return x;
    }

    // p has 9, 5, 1 and 6; q has 7 and 3; r has 3 and a sucker.
    private static final int[] USED = {0, 4, 6, 3, 1, 1, 1, 1, 12, 2, 14, 1, 0};

    private static void sizes(Checks c, GraftQuarrel x, int... due) {
        for (int what = 0; what < due.length; what++) {
            c.is("size(" + what + ")", x.size(what), due[what]);
        }
    }

    static void promise03TheValleyStaysBehindAFault(Checks c) {
        GraftQuarrel x = used();
        c.refused(x, "valley", Checks.tell(x, Checks.sixText(9, 30, "quarrel x debt of a b vigour 30",
                "quarrel y debt of a b vigour 3", "quarrel z debt of a b vigour 3", "law debt on debt odds 1",
                "law debt on love odds 1", "pot y", "pot z", "deed x season 0 feeds 1", "deed x season 0 feeds 1",
                "fell x season 0", "fell z season 0", "?")), -1, 4);
        sizes(c, x, USED);
        c.is("KIND", x.quarrel(0, 0), 0);
        c.is("vigour", x.quarrel(0, 1), 6);
        c.is("fruits", x.quarrel(1, 5), 1);
        c.is("suckers", x.quarrel(2, 6), 1);
        c.is("deeds", x.vigour(0, 2), 3);
        c.is("pots", x.quarrel(1, 4), 1);
        c.is("undo", x.undo(), true);
        c.is("back", x.back(0), true);
        c.is("vigour by the image", x.quarrel(1, 1), 7);
    }

    static void promise03TheValleyStaysBehindANumber(Checks c) {
        GraftQuarrel x = used();
        c.refused(x, "valley(1)", x.valley(1), -1, 2);
        sizes(c, x, USED);
    }

    static void promise03AllIsAnewBehindIt(Checks c) {
        GraftQuarrel x = used();
        tellPlain(c, x);
        c.refused(x, "nothing to undo", x.undo() ? 1 : 0, 0, 6);
        c.refused(x, "no IMAGES", x.back(0) ? 1 : 0, 0, 1);
        c.is("the first IMAGE", x.image(), 0);
    }

    /** A VALLEY of three by themselves: nothing else may be there. */
    private static void tellPlain(Checks c, GraftQuarrel x) {
        c.is("valley", Checks.tell(x, Checks.sixText(0, 20, "quarrel q word of c d vigour 3",
                "quarrel p land of a b vigour 2", "quarrel r debt of e f vigour 1")), 3);
        sizes(c, x, 0, 20, 6, 3, 0, 0, 0, 0, 0, 0, 0, 0, 0);
        for (int q = 0; q < 3; q++) {
            c.is("vigour", x.quarrel(q, 1), 3 - q);
            c.is("no fruit", x.quarrel(q, 5), 0);
            c.is("no sucker", x.quarrel(q, 6), 0);
            c.is("no pot", x.quarrel(q, 4), 0);
            c.is("no deed", x.vigour(q, 24), 3 - q);
            c.is("no law", x.odds(q, (q + 1) % 3) + x.odds(q, (q + 2) % 3), 0);
        }
        c.is("no fruit told", x.ways(), 1);
    }

    private static final String[] RICH = {
        "quarrel x word of a b vigour 9", "quarrel y land of c d vigour 3", "quarrel z debt of e f vigour 3",
        "law land on land odds 9", "law word on land odds 1", "law land on word odds 2", "law debt on land odds 3", "law land on debt odds 4",
        "law debt on word odds 5", "law word on debt odds 6", "pot x", "pot y", "pot z", "deed x season 0 feeds 9",
        "deed y season 9 feeds 9", "deed z season 23 feeds 9", "fell x season 0", "fell y season 9",
    };

    static void promise03NothingOfAFaultyTextStays(Checks c) {
        GraftQuarrel x = new GraftQuarrel();
        c.refused(x, "valley", Checks.tell(x, Checks.sixText(9, 30, RICH) + ";?"), -1, 4);
        tellPlain(c, x);
    }

    static void promise03NothingOfAnyEarlierOneStays(Checks c) {
        GraftQuarrel x = new GraftQuarrel();
        for (int i = 0; i < 3; i++) {
            c.is("a rich one", Checks.tell(x, Checks.sixText(9, 30, RICH)), 3);
            tellPlain(c, x);
            tellPlain(c, x);
        }
    }

    static void promise03NothingIsGraftedBehindIt(Checks c) {
        GraftQuarrel x = Checks.of(NowTest.CHAIN);
        c.is("graft", x.graft(0, 1), 11);
        c.is("left()", x.left(), 1);
        c.is("valley", Checks.tell(x, Checks.HEAD + ";" + String.join(";", NowTest.CHAIN)), 3);
        c.is("stand()", x.stand(), 3);
        c.is("on which", x.quarrel(0, 2), -2);
        c.is("vigour", x.quarrel(0, 1), 9);
        c.is("the stock's", x.quarrel(1, 1), 7);
        c.is("SUREST anew", x.surestAt(1), 12);
    }

    static void promise03NamesOfTheOneBeforeAreGone(Checks c) {
        GraftQuarrel x = Checks.ofText(Q);
        c.goes(x, "told again", Checks.tell(x, Q), 1);
        c.refused(x, "a name of the one before", Checks.tell(x, V + ";family z people 1;quarrel r love of a"), -1, 4);
        c.is("fault()", x.fault(), 2);
    }

    // ---- promise 3: TOKENS

    static void promise03BlanksPartTokens(Checks c) {
        c.good(1, Q.replace(" ", "     "));
        c.good(1, Q.replace(";", "   ;   "));
        c.bad(1, "|val ley winter 1");
        c.bad(1, "valley winter 1 bears 0 |5 coins".replace("bears 0", "bears 10"));
        c.bad(4, "valley winter 1 bears 5 coins 1 1 |11");
    }

    static void promise03BlanksAtBothEnds(Checks c) {
        c.good(1, "       " + Q);
        c.good(1, Q + "       ");
    }

    static void promise03OnlyThirtyTwoIsABlank(Checks c) {
        for (char sign : new char[] {0, 9, 10, 11, 12, 13, 31, 33, 127, 128, 160, 255}) {
            c.bad(1, V + "|" + sign + ";family a people 1");
            c.bad(1, "|" + sign + Q);
            c.bad(1, Q + "|" + sign);
        }
    }

    static void promise03AWordOfOneLetterAndOfEight(Checks c) {
        c.good(1, V + ";family z people 1;family zzzzzzzz people 1;quarrel y love of z zzzzzzzz vigour 1");
        c.good(1, V + ";family abcdefgh people 1;family abcdefgi people 1;"
                + "quarrel bbcdefgh love of abcdefgi abcdefgh vigour 1");
    }

    static void promise03NineLettersAreNoWord(Checks c) {
        c.bad(1, V + ";family |abcdefghi people 1");
        c.bad(1, Q + ";|deedddddd q season 1");
        c.bad(1, "|valleyyyy winter 1");
        c.bad(1, Q + ";pot |qqqqqqqqq");
        c.bad(1, V + ";family |" + "a".repeat(300));
    }

    static void promise03AWholeOfOneDigitAndOfThree(Checks c) {
        c.good(1, "valley winter 000 bears 005 coins 01 001 1 009" + Q.substring(V.length()));
        GraftQuarrel x = Checks.ofText("valley winter 009 bears 04 coins 1 1 1 1" + Q.substring(V.length()));
        c.is("winter", x.size(0), 9);
        c.is("bears", x.size(1), 4);
    }

    static void promise03FourDigitsAreNoWhole(Checks c) {
        c.bad(1, "valley winter |0001 bears 5");
        c.bad(1, V + ";family a people |1000");
        c.bad(1, "valley winter |" + "9".repeat(300));
        c.bad(1, "|1234");
    }

    static void promise03LettersAndDigitsPartOneAnother(Checks c) {
        c.good(1, "valley winter1bears5coins1 1 1 1;family a people1;family b people1;quarrel q love of a b vigour1");
        c.bad(1, V + ";family a|1 people 1");
        c.bad(1, "valley winter 1|x bears");
    }

    static void promise03SignsBesideSmallLettersAreNone(Checks c) {
        for (char sign : new char[] {'`', '{', 'A', 'Z', '@', '[', '_'}) {
            c.bad(1, V + ";family |" + sign + " people 1");
            c.bad(1, V + ";family a|" + sign + " people 1");
        }
        c.good(1, Q.replace("family a", "family z").replace("of a", "of z"));
    }

    static void promise03SignsBesideDigitsAreNone(Checks c) {
        c.bad(1, "valley winter |/ bears 5");
        c.bad(1, "valley winter |: bears 5");
        c.bad(1, "valley winter 1|/ bears 5");
        c.bad(1, "valley winter 1|: bears 5");
        c.bad(1, "valley winter |-1 bears 5");
        c.bad(1, "valley winter |+1 bears 5");
    }

    static void promise03SignsBesideTheSemicolonAreNone(Checks c) {
        c.bad(1, V + "|:family a people 1");
        c.bad(1, V + "|<family a people 1");
        c.bad(1, V + "|,family a people 1");
    }

    static void promise03ASingleSemicolonPartsLines(Checks c) {
        c.bad(1, V + ";|;family a people 1");
        c.bad(1, V + "; |; family a people 1");
        c.bad(1, V + " |family a people 1");
        c.bad(1, "|;" + Q);
        c.bad(1, Q + ";|");
        c.bad(1, Q + ";   |");
    }

    // ---- promise 3: LINES

    static void promise03WinterFromNoneToNine(Checks c) {
        c.good(1, Q.replace("winter 1", "winter 0"));
        c.good(1, Q.replace("winter 1", "winter 9"));
        c.bad(4, Q.replace("winter 1", "winter |10"));
        c.bad(4, Q.replace("winter 1", "winter |999"));
    }

    static void promise03BearsFromFourToThirty(Checks c) {
        c.good(1, Q.replace("bears 5", "bears 4"));
        c.good(1, Q.replace("bears 5", "bears 30"));
        c.bad(4, Q.replace("bears 5", "bears |3"));
        c.bad(4, Q.replace("bears 5", "bears |0"));
        c.bad(4, Q.replace("bears 5", "bears |31"));
    }

    static void promise03CoinsFromOneToNineEach(Checks c) {
        for (int season = 0; season < 4; season++) {
            String ahead = "coins" + " 1".repeat(season) + " ";
            String behind = " 1".repeat(3 - season);
            c.good(1, Q.replace("coins 1 1 1 1", ahead + "9" + behind));
            c.bad(4, Q.replace("coins 1 1 1 1", ahead + "|0" + behind));
            c.bad(4, Q.replace("coins 1 1 1 1", ahead + "|10" + behind));
        }
    }

    static void promise03CoinsOfFourSeasons(Checks c) {
        c.bad(1, "valley winter 1 bears 5 coins 1 1 1|");
        c.bad(1, "valley winter 1 bears 5 coins 1 1 1|;family a people 1");
        c.bad(1, V + " |1;family a people 1");
        GraftQuarrel x = Checks.ofText("valley winter 0 bears 30 coins 9 7 5 3" + Q.substring(V.length()));
        int[] paid = {9, 16, 21, 24, 33};
        for (int due : paid) {
            x.nourish(0, 1);
            c.is("coins of season " + x.size(8), x.cut(0, 1), due);
            x.season();
        }
    }

    static void promise03PeopleFromOneToNinetyNine(Checks c) {
        c.good(1, Q.replace("a people 1", "a people 99"));
        c.bad(4, Q.replace("a people 1", "a people |0"));
        c.bad(4, Q.replace("a people 1", "a people |100"));
    }

    static void promise03VigourFromNoneToThirty(Checks c) {
        c.good(1, Q.replace("vigour 1", "vigour 0"));
        c.good(1, Q.replace("vigour 1", "vigour 30"));
        c.bad(4, Q.replace("vigour 1", "vigour |31"));
    }

    static void promise03OddsFromOneToAHundred(Checks c) {
        c.good(1, Q + ";law love on love odds 1");
        c.good(1, Q + ";law love on love odds 100");
        c.bad(4, Q + ";law love on love odds |0");
        c.bad(4, Q + ";law love on love odds |101");
    }

    static void promise03SeasonsOfDeedsToTwentyThree(Checks c) {
        c.good(1, Q + ";deed q season 0 feeds 1");
        c.good(1, Q + ";deed q season 23 feeds 1");
        c.bad(4, Q + ";deed q season |24 feeds 1");
    }

    static void promise03FeedsFromOneToNine(Checks c) {
        c.good(1, Q + ";deed q season 1 feeds 9");
        c.bad(4, Q + ";deed q season 1 feeds |0");
        c.bad(4, Q + ";deed q season 1 feeds |10");
    }

    static void promise03SeasonsOfFruitsToTwentyThree(Checks c) {
        c.good(1, Q + ";fell q season 0");
        c.good(1, Q + ";fell q season 23");
        c.bad(4, Q + ";fell q season |24");
    }

    static void promise03SixFamilies(Checks c) {
        c.good(1, Q + times(4, "family # people 1"));
        c.bad(5, Q + times(4, "family # people 1") + ";|family z people 1");
    }

    static void promise03SixQuarrels(Checks c) {
        c.good(6, Q + times(5, "quarrel # love of a b vigour 1"));
        c.bad(5, Q + times(5, "quarrel # love of a b vigour 1") + ";|quarrel z love of a b vigour 1");
    }

    static void promise03TenLaws(Checks c) {
        String laws = "";
        String[] kinds = {"land", "word", "love", "debt"};
        for (int i = 0; i < 10; i++) {
            laws += ";law " + kinds[i / 4] + " on " + kinds[i % 4] + " odds 1";
        }
        c.good(1, Q + laws);
        c.is("size(4)", Checks.ofText(Q + laws).size(4), 10);
        c.bad(5, Q + laws + ";|law debt on debt odds 1");
    }

    static void promise03TwelveDeeds(Checks c) {
        c.good(1, Q + times(12, "deed q season 3 feeds 1"));
        c.bad(5, Q + times(12, "deed q season 3 feeds 1") + ";|deed q season 3 feeds 1");
    }

    static void promise03SixFruits(Checks c) {
        c.good(1, Q + times(6, "fell q season $"));
        c.bad(5, Q + times(6, "fell q season $") + ";|fell q season 9");
    }

    static void promise03SixPots(Checks c) {
        String six = Q + times(5, "quarrel # love of a b vigour 1") + ";pot q" + times(5, "pot #");
        c.good(6, six);
        c.is("size(7)", Checks.ofText(six).size(7), 6);
    }

    static void promise03FourKinds(Checks c) {
        String[] kinds = {"land", "word", "love", "debt"};
        for (String kind : kinds) {
            c.good(1, Q.replace("love", kind));
            c.good(1, Q + ";law " + kind + " on " + kind + " odds 1");
        }
        c.bad(1, Q.replace("love", "|loves"));
        c.bad(1, Q.replace("love", "|lov"));
        c.bad(1, Q + ";law |lan on land odds 1");
        c.bad(1, Q + ";law land on |lands odds 1");
    }

    static void promise03LikeLinesThatMayComeAgain(Checks c) {
        c.good(1, Q + ";deed q season 1 feeds 1;deed q season 1 feeds 1");
        c.good(2, Q + ";quarrel r love of a b vigour 1");
        c.good(1, Q + ";law love on word odds 1;law word on love odds 1");
        c.good(2, Q + ";quarrel r love of b a vigour 1;fell q season 1;fell r season 1;fell q season 2");
    }

    static void promise03LinesInAnyOrderBehindTheValley(Checks c) {
        c.good(2, V + ";law love on love odds 1;family b people 1;family a people 1;quarrel q love of a b vigour 1"
                + ";fell q season 1;pot q;deed q season 1 feeds 1;family d people 1;quarrel r debt of d a vigour 1");
    }

    static void promise03OtherWordsMayBeNames(Checks c) {
        c.good(1, V + ";family winter people 1;family people people 1;quarrel land land of winter people vigour 1"
                + ";pot land;deed land season 1 feeds 1;fell land season 1");
        c.good(1, V + ";family of people 1;family vigour people 1;quarrel on word of of vigour vigour 1");
        c.good(1, V + ";family pots people 1;family po people 1;quarrel valleys word of po pots vigour 1");
    }

    static String times(int n, String line) {
        StringBuilder text = new StringBuilder();
        for (int i = 0; i < n; i++) {
            text.append(';').append(line.replace('#', (char) ('k' + i)).replace("$", "" + i));
        }
        return text.toString();
    }
}
