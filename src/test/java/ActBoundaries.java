/** Boundary cases of promises 41 to 47: ACTS, UNDO, IMAGES. */
final class ActBoundaries {
    private static final int[] FAR = {-1, 2, Integer.MIN_VALUE, Integer.MAX_VALUE};

    private ActBoundaries() {
    }

    private static GraftQuarrel two(int p, int q, String... more) {
        return GraftBoundaries.two(30, p, q, more);
    }

    // ---- promise 41

    static void promise41NoSuchQuarrel(Checks c) {
        GraftQuarrel x = two(1, 1);
        for (int q : FAR) {
            c.refused(x, "graft(" + q + ", 0)", x.graft(q, 0), -1, 1);
            c.refused(x, "graft(0, " + q + ")", x.graft(0, q), -1, 1);
        }
        c.is("no act", x.size(10), 0);
        GraftQuarrel y = new GraftQuarrel();
        c.refused(y, "graft(0, 1) without a VALLEY", y.graft(0, 1), -1, 1);
    }

    static void promise41ItCannotBe(Checks c) {
        GraftQuarrel x = two(4, 4, "pot p");
        c.refused(x, "a potted scion", x.graft(0, 1), -1, 5);
        c.refused(x, "a potted stock", x.graft(1, 0), -1, 5);
        c.refused(x, "one on itself", x.graft(1, 1), -1, 5);
        c.is("no act", x.size(10), 0);
        c.is("both stand", x.stand(), 2);
        c.is("their vigour", x.quarrel(0, 1) + x.quarrel(1, 1), 8);
    }

    static void promise41BehindAGraft(Checks c) {
        GraftQuarrel x = two(4, 4);
        c.goes(x, "graft(0, 1)", x.graft(0, 1), 6);
        c.refused(x, "again", x.graft(0, 1), -1, 5);
        c.refused(x, "the other way", x.graft(1, 0), -1, 5);
        c.is("one act", x.size(10), 1);
    }

    static void promise41HalfDownwards(Checks c) {
        int[][] due = {{0, 3}, {1, 3}, {2, 4}, {3, 4}, {29, 17}, {30, 18}};
        for (int[] row : due) {
            GraftQuarrel x = two(row[0], 3);
            c.goes(x, "of " + row[0], x.graft(0, 1), row[1]);
            c.goes(x, "the stock has it", x.quarrel(1, 1), row[1]);
        }
    }

    static void promise41PastBearsNoFruitFalls(Checks c) {
        GraftQuarrel x = two(30, 29);
        c.goes(x, "graft(0, 1)", x.graft(0, 1), 44);
        c.is("no fruit", x.quarrel(1, 5), 0);
        c.is("a fruit in the season", x.season(), 1);
    }

    static void promise41ForGood(Checks c) {
        GraftQuarrel x = NowBoundaries.chain("deed p season 0 feeds 2");
        x.graft(0, 1);
        x.graft(1, 2);
        c.is("its deeds feed the one that stands", x.vigour(2, 1), 2);
        c.is("by a fruit", x.fruits(2, 1), 1);
    }

    // ---- promise 42

    static void promise42NumbersOfFeeding(Checks c) {
        GraftQuarrel x = two(1, 1);
        for (int much : new int[] {-1, 0, 10, Integer.MIN_VALUE, Integer.MAX_VALUE}) {
            c.refused(x, "nourish(0, " + much + ")", x.nourish(0, much), -1, 2);
        }
        c.is("no act", x.size(10), 0);
        c.goes(x, "nourish(0, 1)", x.nourish(0, 1), 2);
        c.goes(x, "nourish(0, 9)", x.nourish(0, 9), 11);
        c.is("its vigour", x.quarrel(0, 1), 11);
        c.is("the other one's", x.quarrel(1, 1), 1);
    }

    static void promise42NoSuchQuarrelAheadOfTheNumber(Checks c) {
        GraftQuarrel x = two(1, 1);
        for (int q : FAR) {
            c.refused(x, "nourish(" + q + ", 1)", x.nourish(q, 1), -1, 1);
            c.refused(x, "nourish(" + q + ", 0)", x.nourish(q, 0), -1, 1);
        }
        GraftQuarrel y = new GraftQuarrel();
        c.refused(y, "nourish(0, 0) without a VALLEY", y.nourish(0, 0), -1, 1);
    }

    static void promise42OneThatDoesNotStand(Checks c) {
        GraftQuarrel x = two(1, 1);
        x.graft(0, 1);
        c.refused(x, "nourish(0, 1)", x.nourish(0, 1), -1, 5);
        c.refused(x, "nourish(0, 9)", x.nourish(0, 9), -1, 5);
        c.refused(x, "nourish(0, 0), the number ahead", x.nourish(0, 0), -1, 2);
        c.refused(x, "nourish(0, 10), the number ahead", x.nourish(0, 10), -1, 2);
        c.is("the stock's vigour", x.quarrel(1, 1), 1);
        c.is("one act", x.size(10), 1);
    }

    static void promise42PastBearsNoFruitFalls(Checks c) {
        GraftQuarrel x = two(29, 1, "pot p");
        c.goes(x, "nourish(0, 9)", x.nourish(0, 9), 38);
        c.is("no fruit", x.quarrel(0, 5), 0);
    }

    // ---- promise 43

    static void promise43NumbersOfCutting(Checks c) {
        GraftQuarrel x = two(30, 1);
        x.nourish(0, 9);
        for (int much : new int[] {-1, 0, 31, Integer.MIN_VALUE, Integer.MAX_VALUE}) {
            c.refused(x, "cut(0, " + much + ")", x.cut(0, much), -1, 2);
        }
        c.is("no act more", x.size(10), 1);
        c.is("nothing paid", x.size(9), 0);
        c.goes(x, "cut(0, 1)", x.cut(0, 1), 1);
        c.goes(x, "cut(0, 30)", x.cut(0, 30), 31);
        c.is("its vigour", x.quarrel(0, 1), 8);
    }

    static void promise43NoMoreThanItsVigour(Checks c) {
        GraftQuarrel x = two(5, 0);
        c.refused(x, "cut(0, 6)", x.cut(0, 6), -1, 2);
        c.refused(x, "cut(1, 1) of none", x.cut(1, 1), -1, 2);
        c.is("its vigour", x.quarrel(0, 1), 5);
        c.goes(x, "cut(0, 5), all", x.cut(0, 5), 5);
        c.is("nothing is left", x.quarrel(0, 1), 0);
    }

    static void promise43NoSuchQuarrelAheadOfTheNumber(Checks c) {
        GraftQuarrel x = two(1, 1);
        for (int q : FAR) {
            c.refused(x, "cut(" + q + ", 1)", x.cut(q, 1), -1, 1);
            c.refused(x, "cut(" + q + ", 0)", x.cut(q, 0), -1, 1);
        }
        GraftQuarrel y = new GraftQuarrel();
        c.refused(y, "cut(0, 0) without a VALLEY", y.cut(0, 0), -1, 1);
    }

    static void promise43ThatItDoesNotStandAheadOfTheNumber(Checks c) {
        GraftQuarrel x = two(9, 9);
        x.graft(0, 1);
        c.refused(x, "cut(0, 1)", x.cut(0, 1), -1, 5);
        c.refused(x, "cut(0, 0)", x.cut(0, 0), -1, 5);
        c.refused(x, "cut(0, 31)", x.cut(0, 31), -1, 5);
        c.is("nothing paid", x.size(9), 0);
    }

    static void promise43CoinsOfTheSeasonNow(Checks c) {
        GraftQuarrel x = Checks.ofText("valley winter 0 bears 30 coins 1 2 4 8;family a people 1;family b people 1;"
                + "quarrel p land of a b vigour 20");
        int[] due = {2, 6, 14, 30, 32};
        for (int paid : due) {
            c.goes(x, "cut(0, 2) in season " + x.size(8), x.cut(0, 2), paid);
            c.is("PAID", x.size(9), paid);
            x.season();
        }
    }

    // ---- promise 44

    static void promise44NoValley(Checks c) {
        GraftQuarrel x = new GraftQuarrel();
        c.refused(x, "season()", x.season(), -1, 1);
        c.is("NOW", x.size(8), 0);
    }

    static void promise44TwoHundred(Checks c) {
        GraftQuarrel x = two(1, 1);
        for (int i = 0; i < 200; i++) {
            c.goes(x, "season " + i, x.season(), 0);
        }
        c.is("NOW", x.size(8), 200);
        c.refused(x, "one more", x.season(), -1, 3);
        c.is("NOW", x.size(8), 200);
        c.is("no act more", x.size(10), 16);
        c.goes(x, "what is behind can be asked", x.fallen(24), 0);
    }

    static void promise44TwoHundredBehindAnUndo(Checks c) {
        GraftQuarrel x = two(1, 1);
        Checks.pass(x, 200);
        x.undo();
        c.goes(x, "season()", x.season(), 0);
        c.refused(x, "one more", x.season(), -1, 3);
    }

    static void promise44FruitsThatFell(Checks c) {
        GraftQuarrel x = Checks.ofText("valley winter 0 bears 4 coins 1 1 1 1" + TextBoundaries.AB.substring(
                TextBoundaries.V.length()) + TextBoundaries.times(6, "quarrel # love of a b vigour 4"));
        c.goes(x, "of all six", x.season(), 6);
        c.goes(x, "none more", x.season(), 0);
    }

    static void promise44TheRound(Checks c) {
        GraftQuarrel x = SeasonBoundaries.one(1, 30, 29);
        int[] due = {29, 29, 29, 28, 28, 28, 28, 27};
        for (int vigour : due) {
            x.season();
            c.is("vigour behind " + x.size(8), x.quarrel(0, 1), vigour);
        }
    }

    static void promise44WinterFarAhead(Checks c) {
        GraftQuarrel x = SeasonBoundaries.one(9, 30, 0);
        Checks.pass(x, 199);
        x.nourish(0, 9);
        x.nourish(0, 1);
        c.is("season 199 is a winter", x.season(), 0);
        c.is("vigour", x.quarrel(0, 1), 1);
    }

    // ---- promise 45

    static void promise45NoValley(Checks c) {
        GraftQuarrel x = new GraftQuarrel();
        c.refused(x, "undo()", x.undo() ? 1 : 0, 0, 6);
    }

    static void promise45NothingWasDone(Checks c) {
        GraftQuarrel x = two(1, 1);
        c.refused(x, "undo()", x.undo() ? 1 : 0, 0, 6);
    }

    static void promise45EachSortOfAct(Checks c) {
        GraftQuarrel x = two(9, 29);
        x.nourish(0, 9);
        c.goes(x, "of a feeding", x.undo() ? 1 : 0, 1);
        c.is("vigour", x.quarrel(0, 1), 9);
        x.cut(0, 9);
        c.goes(x, "of a cut", x.undo() ? 1 : 0, 1);
        c.is("vigour", x.quarrel(0, 1), 9);
        c.is("PAID", x.size(9), 0);
        x.graft(0, 1);
        c.is("left()", x.left(), 1);
        c.goes(x, "of a graft", x.undo() ? 1 : 0, 1);
        c.is("stand()", x.stand(), 2);
        c.is("vigour", x.quarrel(0, 1), 9);
        c.is("the stock's", x.quarrel(1, 1), 29);
        c.is("SUREST anew", x.surestAt(0), 10);
        x.nourish(1, 1);
        x.season();
        c.goes(x, "of a season", x.undo() ? 1 : 0, 1);
        c.is("vigour", x.quarrel(1, 1), 30);
        c.is("fruits", x.quarrel(1, 5), 0);
        c.is("NOW", x.size(8), 0);
    }

    static void promise45ASucker(Checks c) {
        GraftQuarrel x = SeasonBoundaries.one(0, 4, 3);
        Checks.pass(x, 12);
        c.is("a sucker", x.quarrel(0, 6), 1);
        x.undo();
        c.is("none", x.quarrel(0, 6), 0);
    }

    static void promise45SixteenAreKept(Checks c) {
        GraftQuarrel x = two(0, 0);
        for (int i = 1; i <= 16; i++) {
            x.nourish(0, 1);
            c.is("acts", x.size(10), i);
        }
        for (int i = 15; i >= 0; i--) {
            c.goes(x, "undo()", x.undo() ? 1 : 0, 1);
            c.is("vigour", x.quarrel(0, 1), i);
            c.is("acts", x.size(10), i);
        }
        c.refused(x, "undo() once more", x.undo() ? 1 : 0, 0, 6);
    }

    static void promise45TheSeventeenthIsNot(Checks c) {
        GraftQuarrel x = two(0, 0);
        for (int i = 1; i <= 17; i++) {
            x.nourish(0, 1);
        }
        c.is("acts", x.size(10), 16);
        for (int i = 16; i >= 1; i--) {
            c.goes(x, "undo()", x.undo() ? 1 : 0, 1);
            c.is("vigour", x.quarrel(0, 1), i);
        }
        c.refused(x, "undo() once more", x.undo() ? 1 : 0, 0, 6);
        c.is("vigour", x.quarrel(0, 1), 1);
    }

    static void promise45RoundAndRound(Checks c) {
        GraftQuarrel x = two(0, 0);
        for (int i = 0; i < 40; i++) {
            x.nourish(0, 1);
            x.nourish(0, 2);
            x.undo();
        }
        c.is("vigour", x.quarrel(0, 1), 40);
        for (int i = 39; i >= 25; i--) {
            c.is("undo()", x.undo(), true);
            c.is("vigour", x.quarrel(0, 1), i);
        }
    }

    static void promise45WhatIsRefusedIsNoAct(Checks c) {
        GraftQuarrel x = two(1, 1);
        x.nourish(0, 1);
        x.nourish(0, 0);
        x.cut(0, 31);
        x.graft(0, 0);
        x.back(0);
        c.is("acts", x.size(10), 1);
        c.is("undo()", x.undo(), true);
        c.is("vigour", x.quarrel(0, 1), 1);
    }

    static void promise45ImagesStay(Checks c) {
        GraftQuarrel x = two(1, 1);
        x.nourish(0, 1);
        x.image();
        c.is("undo()", x.undo(), true);
        c.is("IMAGES", x.size(11), 1);
        c.is("back(0)", x.back(0), true);
        c.is("vigour", x.quarrel(0, 1), 2);
    }

    // ---- promise 46

    static void promise46NoValley(Checks c) {
        GraftQuarrel x = new GraftQuarrel();
        c.refused(x, "image()", x.image(), -1, 1);
        c.is("IMAGES", x.size(11), 0);
    }

    static void promise46Three(Checks c) {
        GraftQuarrel x = two(1, 1);
        for (int i = 0; i < 3; i++) {
            c.goes(x, "image()", x.image(), i);
            c.is("IMAGES", x.size(11), i + 1);
            x.nourish(0, 1);
        }
        c.refused(x, "a fourth", x.image(), -1, 3);
        c.is("IMAGES", x.size(11), 3);
        for (int i = 2; i >= 0; i--) {
            c.is("back", x.back(i), true);
            c.is("none of them is another one", x.quarrel(0, 1), i + 1);
        }
    }

    static void promise46NoRoomBehindBackToo(Checks c) {
        GraftQuarrel x = two(1, 1);
        x.image();
        x.image();
        x.image();
        x.back(0);
        c.refused(x, "image()", x.image(), -1, 3);
    }

    static void promise46AnImageIsNoAct(Checks c) {
        GraftQuarrel x = two(1, 1);
        x.nourish(0, 1);
        x.image();
        c.is("acts", x.size(10), 1);
        c.is("undo()", x.undo(), true);
        c.is("vigour", x.quarrel(0, 1), 1);
    }

    static void promise46RoomAgainByANewValley(Checks c) {
        GraftQuarrel x = two(1, 1);
        x.image();
        x.image();
        x.image();
        Checks.tell(x, TextBoundaries.Q);
        c.goes(x, "image()", x.image(), 0);
    }

    // ---- promise 47

    static void promise47NoSuchImage(Checks c) {
        GraftQuarrel x = two(1, 1);
        c.refused(x, "back(0)", x.back(0) ? 1 : 0, 0, 1);
        x.image();
        x.nourish(0, 5);
        for (int image : new int[] {-1, 1, 3, Integer.MIN_VALUE, Integer.MAX_VALUE}) {
            c.refused(x, "back(" + image + ")", x.back(image) ? 1 : 0, 0, 1);
        }
        c.is("vigour", x.quarrel(0, 1), 6);
        c.is("acts", x.size(10), 1);
        c.goes(x, "back(0)", x.back(0) ? 1 : 0, 1);
    }

    static void promise47NoValley(Checks c) {
        GraftQuarrel x = new GraftQuarrel();
        c.refused(x, "back(0)", x.back(0) ? 1 : 0, 0, 1);
    }

    static void promise47NothingCanBeUndone(Checks c) {
        GraftQuarrel x = two(1, 1);
        x.nourish(0, 1);
        x.image();
        x.nourish(0, 1);
        c.goes(x, "back(0)", x.back(0) ? 1 : 0, 1);
        c.is("acts", x.size(10), 0);
        c.refused(x, "undo()", x.undo() ? 1 : 0, 0, 6);
        x.nourish(0, 1);
        c.goes(x, "undo() of one more", x.undo() ? 1 : 0, 1);
        c.is("vigour", x.quarrel(0, 1), 2);
    }

    static void promise47AllIsAsByIt(Checks c) {
        GraftQuarrel x = GraftBoundaries.two(4, 9, 3);
        x.cut(0, 1);
        Checks.pass(x, 12);
        x.image();
        x.nourish(1, 2);
        x.graft(0, 1);
        x.cut(1, 1);
        Checks.pass(x, 12);
        c.is("left()", x.left(), 1);
        c.is("back(0)", x.back(0), true);
        c.is("NOW", x.size(8), 12);
        c.is("PAID", x.size(9), 1);
        c.is("stand()", x.stand(), 2);
        c.is("vigour", x.quarrel(0, 1), 0);
        c.is("vigour", x.quarrel(1, 1), 3);
        c.is("fruits", x.quarrel(0, 5), 2);
        c.is("fruits", x.quarrel(1, 5), 0);
        c.is("suckers", x.quarrel(1, 6), 1);
        c.is("SUREST anew", x.surestAt(0), 10);
    }

    static void promise47AllImagesStay(Checks c) {
        GraftQuarrel x = two(1, 1);
        x.image();
        x.nourish(0, 1);
        x.image();
        for (int i = 0; i < 3; i++) {
            c.is("back(1)", x.back(1), true);
            c.is("vigour", x.quarrel(0, 1), 2);
            x.nourish(0, 7);
            c.is("back(0)", x.back(0), true);
            c.is("vigour", x.quarrel(0, 1), 1);
            x.nourish(0, 7);
            c.is("IMAGES", x.size(11), 2);
        }
    }
}
