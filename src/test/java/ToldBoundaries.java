/** Boundary cases of promises 48 to 50: led(), size(), TROUBLE. */
final class ToldBoundaries {
    private ToldBoundaries() {
    }

    // ---- promise 48

    static void promise48NoValley(Checks c) {
        GraftQuarrel x = new GraftQuarrel();
        c.throwsNone(x, 0);
        c.throwsNone(x, -1);
    }

    static void promise48NoSuch(Checks c) {
        GraftQuarrel x = Checks.six(0, 4, "quarrel p land of a b vigour 0", "quarrel q land of a b vigour 1",
                "quarrel r land of a b vigour 0");
        for (int i : new int[] {-1, 2, 3, Integer.MIN_VALUE, Integer.MAX_VALUE}) {
            c.throwsNone(x, i);
        }
        c.is("led(0)", x.led(0), 0);
        c.is("led(1)", x.led(1), 2);
    }

    static void promise48NoneWithoutVigour(Checks c) {
        GraftQuarrel x = SeasonBoundaries.one(0, 4, 1);
        c.throwsNone(x, 0);
        x.cut(0, 1);
        c.is("led(0)", x.led(0), 0);
    }

    static void promise48All(Checks c) {
        GraftQuarrel x = Checks.ofText(TextBoundaries.AB
                + TextBoundaries.times(6, "quarrel # love of a b vigour 0"));
        for (int i = 0; i < 6; i++) {
            c.is("led(" + i + ")", x.led(i), i);
        }
        c.throwsNone(x, 6);
    }

    static void promise48OnlyThoseThatStand(Checks c) {
        GraftQuarrel x = GraftBoundaries.two(4, 0, 2);
        c.is("led(0)", x.led(0), 0);
        x.graft(0, 1);
        c.throwsNone(x, 0);
    }

    static void promise48NoNumberIsToldOfIt(Checks c) {
        GraftQuarrel x = SeasonBoundaries.one(0, 4, 0);
        x.undo();
        c.throwsNone(x, 1);
        c.is("trouble() behind one that throws", x.trouble(), 6);
        c.is("led(0)", x.led(0), 0);
        c.is("trouble() behind one that doesn't", x.trouble(), 6);
    }

    // ---- promise 49

    static void promise49Others(Checks c) {
        GraftQuarrel x = SeasonBoundaries.one(0, 4, 0);
        GraftQuarrel y = new GraftQuarrel();
        for (int what : new int[] {-1, 13, Integer.MIN_VALUE, Integer.MAX_VALUE}) {
            c.is("size(" + what + ")", x.size(what), -1);
            c.is("size(" + what + ") without a VALLEY", y.size(what), -1);
        }
    }

    static void promise49WhatThereIsNot(Checks c) {
        GraftQuarrel x = new GraftQuarrel();
        x.feed(0, 0, 0, 0, 0);
        for (int what = 0; what <= 11; what++) {
            c.is("size(" + what + ")", x.size(what), 0);
        }
        c.is("bytes of THE TAPE", x.size(12), 20);
    }

    static void promise49Nothing(Checks c) {
        int[] due = {0, 4, 6, 1, 0, 0, 0, 0, 0, 0, 0, 0, 0};
        GraftQuarrel x = SeasonBoundaries.one(0, 4, 0);
        for (int what = 0; what < due.length; what++) {
            c.is("size(" + what + ")", x.size(what), due[what]);
        }
    }

    static void promise49AsMuchAsThereIsRoomFor(Checks c) {
        StringBuilder text = new StringBuilder(
                "valley winter 9 bears 30 coins 9 9 9 9;family a people 9;family b people 9");
        text.append(TextBoundaries.times(4, "family # people 1").replace("family k", "family c")
                .replace("family l", "family d").replace("family m", "family e").replace("family n", "family f"));
        text.append(TextBoundaries.times(6, "quarrel # land of a b vigour 9")).append(TextBoundaries.times(6, "pot #"));
        String[] kinds = {"land", "word", "love", "debt"};
        for (int i = 0; i < 10; i++) {
            text.append(";law ").append(kinds[i / 4]).append(" on ").append(kinds[i % 4]).append(" odds 1");
        }
        text.append(TextBoundaries.times(6, "fell k season $"));
        GraftQuarrel x = Checks.ofText(text.toString());
        int[] due = {9, 30, 6, 6, 10, 0, 6, 6};
        for (int what = 0; what < due.length; what++) {
            c.is("size(" + what + ")", x.size(what), due[what]);
        }
        GraftQuarrel y = Checks.ofText(TextBoundaries.Q + TextBoundaries.times(12, "deed q season 1 feeds 1"));
        c.is("size(5)", y.size(5), 12);
    }

    static void promise49WhatIsNow(Checks c) {
        GraftQuarrel x = SeasonBoundaries.one(0, 30, 9);
        x.season();
        x.cut(0, 3);
        x.image();
        x.image();
        x.feed(0, 0, 0, 0, 0);
        c.is("the season NOW", x.size(8), 1);
        c.is("coins PAID", x.size(9), 3);
        c.is("ACTS", x.size(10), 2);
        c.is("IMAGES", x.size(11), 2);
        c.is("bytes", x.size(12), 20);
    }

    static void promise49NoNumberIsToldOfIt(Checks c) {
        GraftQuarrel x = new GraftQuarrel();
        x.undo();
        x.size(0);
        x.size(13);
        c.is("trouble()", x.trouble(), 6);
    }

    // ---- promise 50

    static void promise50OfANewObject(Checks c) {
        c.is("trouble()", new GraftQuarrel().trouble(), 0);
    }

    static void promise50EachNumber(Checks c) {
        GraftQuarrel x = GraftBoundaries.two(30, 1, 1);
        c.refused(x, "none such", x.parties(2), -1, 1);
        c.refused(x, "a number", x.fallen(25), -1, 2);
        x.image();
        x.image();
        x.image();
        c.refused(x, "no room", x.image(), -1, 3);
        c.refused(x, "a fault", Checks.tell(x, "?"), -1, 4);
        c.refused(x, "not so", x.graft(0, 0), -1, 5);
        c.refused(x, "there is none", x.undo() ? 1 : 0, 0, 6);
        c.goes(x, "not refused", x.stand(), 2);
    }

    static void promise50OfTheLatest(Checks c) {
        GraftQuarrel x = GraftBoundaries.two(30, 1, 1);
        x.undo();
        x.fallen(25);
        c.is("of the later one", x.trouble(), 2);
        c.is("asked again", x.trouble(), 2);
    }

    static void promise50GoneBehindEachCallThatIsNotRefused(Checks c) {
        GraftQuarrel x = GraftBoundaries.two(30, 9, 9);
        Runnable[] calls = {
            () -> x.quarrel(0, 0), () -> x.parties(0), () -> x.bound(0), () -> x.peace(), () -> x.stand(),
            () -> x.feud(0), () -> x.vigour(0, 0), () -> x.fruits(0, 0), () -> x.first(0), () -> x.fallen(0),
            () -> x.suckers(0), () -> x.quiet(0), () -> x.peaceBy(), () -> x.worst(0), () -> x.spared(0, 0),
            () -> x.odds(0, 0), () -> x.grafted(0, 1, 0), () -> x.bestGraft(0), () -> x.left(),
            () -> x.surest(true), () -> x.takes(true), () -> x.surestAt(0), () -> x.prune(0, 0),
            () -> x.pruneAt(0, 1, 0), () -> x.feedFor(0, 0), () -> x.feedAgainst(0, 0, 0), () -> x.share(0, 0, 0),
            () -> x.game(0, 0, 0, true), () -> x.rests(0), () -> x.rest(0), () -> x.ways(), () -> x.wayAt(0),
            () -> x.judge(), () -> x.year(0), () -> x.years(0, 0), () -> x.nourish(0, 1), () -> x.cut(0, 1),
            () -> x.season(), () -> x.undo(), () -> x.image(), () -> x.back(0), () -> x.graft(0, 1),
            () -> Checks.tell(x, TextBoundaries.Q),
        };
        for (int i = 0; i < calls.length; i++) {
            x.parties(-1);
            c.is("trouble() ahead of call " + i, x.trouble(), 1);
            calls[i].run();
            c.is("trouble() behind call " + i, x.trouble(), 0);
        }
    }

    static void promise50GoneBehindWhatFindsNothing(Checks c) {
        GraftQuarrel x = Checks.six(0, 4, "quarrel p land of a b vigour 4", "quarrel q land of c d vigour 3",
                "deed q season 1 feeds 4", "fell q season 0");
        long[] due = {1, -2, 1, -2, -2, -2, -2, 0};
        for (int i = 0; i < due.length; i++) {
            x.parties(-1);
            long got = i == 0 ? x.first(0) : i == 1 ? x.peaceBy() : i == 2 ? x.feedFor(0, 0) + 1
                    : i == 3 ? x.feedFor(0, 23) : i == 4 ? x.rest(0) : i == 5 ? x.bestGraft(24)
                    : i == 6 ? x.prune(1, 2) : x.judge();
            c.goes(x, "call " + i, got, due[i]);
        }
        GraftQuarrel y = SeasonBoundaries.one(1, 4, 1);
        y.parties(-1);
        c.goes(y, "peaceBy()", y.peaceBy(), 4);
        y.parties(-1);
        c.goes(y, "first(0)", y.first(0), -2);
        y.parties(-1);
        c.goes(y, "judge()", y.judge(), -2);
    }

    static void promise50NotOfCallsThatMayNotBeRefused(Checks c) {
        GraftQuarrel x = SeasonBoundaries.one(0, 4, 0);
        x.fallen(25);
        x.feed(0, 0, 0, 0, 0);
        x.fault();
        x.where();
        x.led(0);
        x.size(3);
        x.trouble();
        c.is("trouble()", x.trouble(), 2);
    }
}
