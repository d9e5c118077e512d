/** The edges that the document names for promises 23 to 33, each with the sentence that it holds. */
final class LodesEdges {
    private static final int OUTSIDE = Edges.OUTSIDE, STATE = Edges.STATE, FULL = Edges.FULL, NONE = Edges.NONE;
    private static final long GONE_OUTSIDE = Edges.GONE_OUTSIDE;
    private static final String GONE = "refused with GONE and the refusal, added";
    private static final String PARTS = "0 the upper, 1 the lower number";
    private static final String LOWEST = "Fractions are told in lowest terms by part";
    private static final String LODES = "(0 to 7 rows y, 8 to 15 columns x, 16 to 30 x less y from -7 to 7, 31 to 45 x "
        + "and y from 0 to 14)";
    private static final String NONE_BELOW = "NONE (i below -1, too)";
    private static final String TENTHS = "each MAN who is there has a COLD with t tenths (0 to 10) tonight";
    private static final String SEEDS = "A YEAR by a seed (0 to 9999) of m ACTS (1 to 99)";
    private static final String IF_IT_CAN_BE = "each if that can be";
    private static final String OF_MEN = "10 times (1 and a MAN who is there) and 0 the CELL, 1 SNORE, 2 SALT, 3 COLD, "
        + "4 WHISTLES (1, 0), 5 how many he KNOWS";

    private LodesEdges() {
    }

    private static void due(String call, long got, long want) {
        Edges.due(call, got, want);
    }

    private static SnoresGold sights(int... cellsOn) {
        SnoresGold x = new SnoresGold();
        for (int cell : cellsOn) {
            x.seen(cell, true);
        }
        return x;
    }

    private static void fit(SnoresGold x, int... lodes) {
        due("lodes(-1)", x.lodes(-1), lodes.length);
        for (int i = 0; i < lodes.length; i++) {
            due("lodes(" + i + ")", x.lodes(i), lodes[i]);
        }
        due("lodes(" + lodes.length + ")", x.lodes(lodes.length), NONE);
    }

    // ---- Promise 23: seen

    @Holds(promise = 23, sentence = "OUTSIDE")
    static void seenACellOutside() {
        SnoresGold x = new SnoresGold();
        Edges.refused("seen(cell, true)", Edges.beside(0, 63), OUTSIDE, x, (y, cell) -> y.seen(cell, true));
        Edges.refused("seen(cell, false)", Edges.beside(0, 63), OUTSIDE, x, (y, cell) -> y.seen(cell, false));
        due("sights", x.told(3), 0);
        due("first cell", x.seen(0, false), 1);
        due("last cell", x.seen(63, false), 2);
    }

    @Holds(promise = 23, sentence = "FULL")
    static void seenTheNinth() {
        SnoresGold x = new SnoresGold();
        for (int i = 1; i <= 8; i++) {
            due("sight " + i, x.seen(0, true), i);
        }
        due("sight 9", x.seen(63, true), FULL);
        due("sight 9 again", x.seen(0, false), FULL);
        due("sights", x.told(3), 8);
        fit(x, 0, 8, 23, 31);
    }

    @Holds(promise = 23, sentence = "SIGHTS, 8 at most: a CELL is on it, or is not")
    static void seenTheEighthCounts() {
        SnoresGold x = sights(0, 0, 0, 0, 0, 0, 0);
        due("four after seven", x.lodes(-1), 4);
        due("sight 8", x.seen(1, false), 8);
        fit(x, 8, 23, 31);
    }

    @Holds(promise = 23, sentence = "A SIGHT more: how many")
    static void seenTheSameAgainIsOneMore() {
        SnoresGold x = new SnoresGold();
        due("on it", x.seen(0, true), 1);
        due("again", x.seen(0, true), 2);
        due("not on it", x.seen(0, false), 3);
    }

    @Holds(promise = 23, sentence = Edges.ORDER)
    static void seenOutsideBeforeFull() {
        SnoresGold x = sights(0, 0, 0, 0, 0, 0, 0, 0);
        due("seen(64, true)", x.seen(64, true), OUTSIDE);
        due("seen(-1, true)", x.seen(-1, true), OUTSIDE);
        due("seen(63, true)", x.seen(63, true), FULL);
    }

    private static SnoresGold fullOfSights() {
        SnoresGold x = Edges.some();
        for (int i = 0; i < 6; i++) {
            x.seen(40 + i, false);
        }
        return x;
    }

    @Holds(promise = 23, sentence = Edges.NO_CHANGE)
    static void seenRefusedChangesNothing() {
        Edges.changesNothing("seen(64, true)", OUTSIDE, Edges::some, x -> x.seen(64, true));
        Edges.changesNothing("sight 9", FULL, () -> fullOfSights(), x -> x.seen(0, true));
        Edges.changesNothing("sight 9", FULL, () -> fullOfSights(), x -> x.seen(9, false));
    }

    // ---- Promise 24: forget

    @Holds(promise = 24, sentence = "how many there were")
    static void forgetNone() {
        SnoresGold x = new SnoresGold();
        due("forget()", x.forget(), 0);
        due("forget() again", x.forget(), 0);
    }

    @Holds(promise = 24, sentence = "how many there were")
    static void forgetEight() {
        SnoresGold x = fullOfSights();
        x.seen(0, true);
        due("forget()", x.forget(), 8);
        due("forget() again", x.forget(), 0);
    }

    @Holds(promise = 24, sentence = "SIGHTS go")
    static void forgetMakesRoomForEight() {
        SnoresGold x = sights(0, 1, 2, 3, 8, 9, 10, 11);
        due("none fits", x.lodes(-1), 0);
        x.forget();
        due("all fit", x.lodes(-1), 46);
        for (int i = 1; i <= 8; i++) {
            due("sight " + i, x.seen(63, true), i);
        }
        due("sight 9", x.seen(63, true), FULL);
    }

    // ---- Promise 25: lodes

    @Holds(promise = 25, sentence = "how many (i = -1), the i-th")
    static void lodesWithoutSights() {
        SnoresGold x = new SnoresGold();
        due("how many", x.lodes(-1), 46);
        for (int i = 0; i < 46; i++) {
            due("lodes(" + i + ")", x.lodes(i), i);
        }
        due("lodes(46)", x.lodes(46), NONE);
    }

    @Holds(promise = 25, sentence = NONE_BELOW)
    static void lodesBelowAndBeyond() {
        Edges.refused("lodes(i)", Edges.beside(-1, 45), NONE, new SnoresGold(), (x, i) -> x.lodes(i));
        Edges.refused("lodes(i) of four", Edges.beside(-1, 3), NONE, sights(0), (x, i) -> x.lodes(i));
        due("lodes(-2)", new SnoresGold().lodes(-2), NONE);
    }

    @Holds(promise = 25, sentence = NONE_BELOW)
    static void lodesWhenNoneFits() {
        SnoresGold x = sights(0);
        x.seen(0, false);
        due("how many", x.lodes(-1), 0);
        due("the first", x.lodes(0), NONE);
        due("lodes(-2)", x.lodes(-2), NONE);
        due("lodes(45)", x.lodes(45), NONE);
    }

    @Holds(promise = 25, sentence = LODES)
    static void lodesThroughEachCorner() {
        fit(sights(0), 0, 8, 23, 31);
        fit(sights(7), 0, 15, 30, 38);
        fit(sights(56), 7, 8, 16, 38);
        fit(sights(63), 7, 15, 23, 45);
    }

    @Holds(promise = 25, sentence = LODES)
    static void lodesOfOneCell() {
        int[] corners = {7, 56, 0, 63};
        int[] beside = {6, 48, 1, 62};
        int[] above = {15, 57, 8, 55};
        int[] across = {14, 49, 9, 54};
        int[] lodes = {30, 16, 31, 45};
        for (int i = 0; i < 4; i++) {
            SnoresGold x = sights(corners[i]);
            x.seen(beside[i], false);
            x.seen(above[i], false);
            x.seen(across[i], false);
            fit(x, lodes[i]);
        }
    }

    @Holds(promise = 25, sentence = LODES)
    static void lodesRowsDoNotJoin() {
        fit(sights(7, 8));
        fit(sights(7, 15), 15);
        fit(sights(7, 14), 38);
        fit(sights(15, 24));
        fit(sights(48, 41), 37);
        fit(sights(56, 49), 38);
    }

    @Holds(promise = 25, sentence = "the i-th (rising)")
    static void lodesRiseWhateverWasSeen() {
        SnoresGold x = new SnoresGold();
        x.seen(63, false);
        x.seen(0, false);
        int before = -1;
        for (int i = 0; i < 39; i++) {
            int lode = x.lodes(i);
            due("lodes(" + i + ") is greater than " + before, lode > before ? 1 : 0, 1);
            before = lode;
        }
        due("how many", x.lodes(-1), 39);
        due("the first", x.lodes(0), 1);
        due("the last", x.lodes(38), 44);
    }

    @Holds(promise = 25, sentence = "those by which all SIGHTS are so: how many")
    static void lodesNoMatterWhatGoldThereIs() {
        SnoresGold x = sights(9);
        for (int cell = 0; cell < 64; cell++) {
            x.gold(cell, cell % 10);
        }
        fit(x, 1, 9, 23, 33);
    }

    // ---- Promise 26: odds

    private static void oddsAre(SnoresGold x, int cell, long upper, long lower) {
        due("odds(" + cell + ", 0)", x.odds(cell, 0), upper);
        due("odds(" + cell + ", 1)", x.odds(cell, 1), lower);
    }

    @Holds(promise = 26, sentence = "OUTSIDE")
    static void oddsOfACellOutside() {
        SnoresGold x = new SnoresGold();
        Edges.refused("odds(cell, 0)", Edges.beside(0, 63), GONE_OUTSIDE, x, (y, cell) -> y.odds(cell, 0));
        Edges.refused("odds(cell, 1)", Edges.beside(0, 63), GONE_OUTSIDE, x, (y, cell) -> y.odds(cell, 1));
    }

    @Holds(promise = 26, sentence = PARTS)
    static void oddsOfAPartOutside() {
        SnoresGold x = new SnoresGold();
        Edges.refused("odds(0, part)", Edges.beside(0, 1), GONE_OUTSIDE, x, (y, part) -> y.odds(0, part));
    }

    @Holds(promise = 26, sentence = GONE)
    static void oddsRefusedWithGoneAndTheRefusal() {
        SnoresGold x = sights(0);
        x.seen(0, false);
        due("GONE and OUTSIDE", x.odds(64, 0), SnoresGold.GONE + SnoresGold.OUTSIDE);
        due("of a part", x.odds(63, 2), -1000000000000000002L);
        due("both", x.odds(-1, -1), -1000000000000000002L);
    }

    @Holds(promise = 26, sentence = "ODDS that a CELL is on it, each that fits as likely: a fraction (0, if none fits)")
    static void oddsIfNoneFits() {
        SnoresGold x = sights(0);
        x.seen(0, false);
        oddsAre(x, 0, 0, 1);
        oddsAre(x, 63, 0, 1);
    }

    @Holds(promise = 26, sentence = LOWEST)
    static void oddsInLowestTerms() {
        SnoresGold x = new SnoresGold();
        oddsAre(x, 0, 2, 23);
        oddsAre(x, 63, 2, 23);
        x.seen(0, true);
        oddsAre(x, 0, 1, 1);
        oddsAre(x, 7, 1, 4);
        oddsAre(x, 10, 0, 1);
        x.seen(0, true);
        x.seen(63, false);
        oddsAre(x, 0, 1, 1);
        oddsAre(x, 7, 1, 3);
        oddsAre(x, 63, 0, 1);
    }

    @Holds(promise = 26, sentence = "ODDS")
    static void oddsOfOneThatFits() {
        SnoresGold x = sights(0, 7);
        oddsAre(x, 3, 1, 1);
        oddsAre(x, 8, 0, 1);
        oddsAre(x, 63, 0, 1);
    }

    // ---- Promise 27: next

    @Holds(promise = 27, sentence = "NONE: no LODE fits")
    static void nextWhenNoneFits() {
        SnoresGold x = sights(7, 8);
        due("next(0)", x.next(0), NONE);
        due("next(1)", x.next(1), NONE);
    }

    @Holds(promise = 27, sentence = "OUTSIDE")
    static void nextOfAWhatOutside() {
        Edges.refused("next(what)", Edges.beside(0, 1), OUTSIDE, new SnoresGold(), (x, what) -> x.next(what));
    }

    @Holds(promise = 27, sentence = "OUTSIDE")
    static void nextOutsideWhenNoneFits() {
        due("next(2)", sights(7, 8).next(2), OUTSIDE);
        due("next(-1)", sights(7, 8).next(-1), OUTSIDE);
    }

    @Holds(promise = 27, sentence = "fewest are left at the most: the least; how many; NONE")
    static void nextTheLeastOfAsGoodOnes() {
        SnoresGold x = new SnoresGold();
        due("all cells are as good", x.next(0), 0);
        due("of 46", x.next(1), 42);
        x.seen(0, false);
        // 10 is the first through which none of the four goes that are out.
        due("0 is not as good any more", x.next(0), 10);
        due("of 42", x.next(1), 38);
    }

    @Holds(promise = 27, sentence = "fewest are left at the most: the least; how many; NONE")
    static void nextTheLastCellAlone() {
        SnoresGold x = sights(54);
        x.seen(0, false);
        // The row, the column and the falling diagonal of 54 are left: 51, 52, 6 and more each take one of these.
        fit(x, 6, 14, 43);
        due("the least", x.next(0), 6);
        due("of three", x.next(1), 2);
    }

    @Holds(promise = 27, sentence = "how many (1)")
    static void nextWhenOneFits() {
        SnoresGold x = sights(0, 1);
        fit(x, 0);
        due("next(0)", x.next(0), 0);
        due("next(1)", x.next(1), 1);
        SnoresGold far = sights(56, 7);
        fit(far, 38);
        due("a cell that is not on it does as well", far.next(0), 0);
        due("one is left", far.next(1), 1);
    }

    @Holds(promise = 27, sentence = "so that, on it or not")
    static void nextWhenTwoFit() {
        SnoresGold x = sights(0);
        x.seen(1, false);
        x.seen(8, false);
        // Both diagonals of the first cell: the next of the rising one is 9.
        fit(x, 23, 31);
        due("next(0)", x.next(0), 9);
        due("next(1)", x.next(1), 1);
    }

    // ---- Promise 28: turns

    private static void turnsAre(int row, int much, int end) {
        SnoresGold x = new SnoresGold();
        due("turns(" + row + ", 0)", x.turns(row, 0), much);
        due("turns(" + row + ", 1)", x.turns(row, 1), end);
    }

    @Holds(promise = 28, sentence = "OUTSIDE: 0 to 999999")
    static void turnsOfARowOutside() {
        SnoresGold x = new SnoresGold();
        Edges.refused("turns(row, 0)", Edges.beside(0, 999999), OUTSIDE, x, (y, row) -> y.turns(row, 0));
        Edges.refused("turns(row, 1)", Edges.beside(0, 999999), OUTSIDE, x, (y, row) -> y.turns(row, 1));
    }

    @Holds(promise = 28, sentence = "OUTSIDE: 0 to 999999")
    static void turnsOfTheLeastAndTheGreatestRow() {
        turnsAre(0, 100, 0);
        turnsAre(999999, 100, 0);
    }

    @Holds(promise = 28, sentence = "how much, and 100 (what = 0), which end (1)")
    static void turnsOfAWhatOutside() {
        Edges.refused("turns(0, what)", Edges.beside(0, 1), OUTSIDE, new SnoresGold(), (x, what) -> x.turns(0, what));
    }

    @Holds(promise = 28, sentence = "which end he takes first (0 left, 1 right; left, if it is the same)")
    static void turnsLeftIfItIsTheSame() {
        turnsAre(500005, 100, 0);
        turnsAre(111111, 100, 0);
        turnsAre(900009, 100, 0);
    }

    @Holds(promise = 28, sentence = "which end he takes first (0 left, 1 right")
    static void turnsOneMoreDecidesTheEnd() {
        turnsAre(600005, 101, 0);
        turnsAre(500006, 101, 1);
        turnsAre(100000, 101, 0);
        turnsAre(1, 101, 1);
    }

    @Holds(promise = 28, sentence = "how much more who begins has in the end than the other one, both playing "
        + "best, and 100")
    static void turnsTheMostThatCanBe() {
        turnsAre(909090, 127, 0);
        turnsAre(90909, 127, 1);
    }

    @Holds(promise = 28, sentence = "two claim by turns CELLS in a row of told GOLD (six digits); each takes the "
        + "one at the left or the right end, till none is left")
    static void turnsTillNoneIsLeft() {
        turnsAre(190000, 108, 1);
        turnsAre(91, 108, 0);
        turnsAre(900, 109, 0);
        turnsAre(9000, 109, 0);
        turnsAre(90000, 109, 1);
    }

    // ---- Promise 29: colds

    private static void chanceIs(SnoresGold x, int[] asked, long upper, long lower) {
        String call = "colds(" + asked[0] + ", " + asked[1] + ", " + asked[2] + ")";
        due(call + " upper", x.colds(asked[0], asked[1], asked[2], 0), upper);
        due(call + " lower", x.colds(asked[0], asked[1], asked[2], 1), lower);
    }

    private static void chanceIs(SnoresGold x, int t, int v, long upper, long lower) {
        chanceIs(x, new int[] {0, t, v}, upper, lower);
    }

    @Holds(promise = 29, sentence = "OUTSIDE")
    static void coldsAtACellOutside() {
        SnoresGold x = Edges.menOn(1, 0);
        Edges.refused("colds(cell, 5, 0, 0)", Edges.beside(0, 63), GONE_OUTSIDE, x, (y, c) -> y.colds(c, 5, 0, 0));
    }

    @Holds(promise = 29, sentence = TENTHS)
    static void coldsOfTenthsOutside() {
        SnoresGold x = Edges.menOn(1, 0);
        Edges.refused("colds(0, t, 0, 0)", Edges.beside(0, 10), GONE_OUTSIDE, x, (y, t) -> y.colds(0, t, 0, 0));
    }

    @Holds(promise = 29, sentence = "v or more (v 0 to 999), the mean (v = -1)")
    static void coldsOfAVOutside() {
        SnoresGold x = Edges.menOn(1, 0);
        Edges.refused("colds(0, 5, v, 0)", Edges.beside(-1, 999), GONE_OUTSIDE, x, (y, v) -> y.colds(0, 5, v, 0));
        due("v -2", x.colds(0, 5, -2, 0), GONE_OUTSIDE);
        due("v 1000", x.colds(0, 5, 1000, 0), GONE_OUTSIDE);
    }

    @Holds(promise = 29, sentence = PARTS)
    static void coldsOfAPartOutside() {
        SnoresGold x = Edges.menOn(1, 0);
        Edges.refused("colds(0, 5, 0, part)", Edges.beside(0, 1), GONE_OUTSIDE, x, (y, p) -> y.colds(0, 5, 0, p));
    }

    @Holds(promise = 29, sentence = GONE)
    static void coldsRefusedWithGoneAndTheRefusal() {
        due("GONE and OUTSIDE", new SnoresGold().colds(64, 5, 0, 0), SnoresGold.GONE + SnoresGold.OUTSIDE);
        due("all outside", new SnoresGold().colds(-1, 11, 1000, 2), -1000000000000000002L);
    }

    @Holds(promise = 29, sentence = TENTHS)
    static void coldsOfNobody() {
        SnoresGold x = new SnoresGold();
        chanceIs(x, 5, 0, 1, 1);
        chanceIs(x, 5, 1, 0, 1);
        chanceIs(x, 5, 999, 0, 1);
        chanceIs(x, 5, -1, 0, 1);
        chanceIs(x, 0, 0, 1, 1);
        chanceIs(x, 10, 0, 1, 1);
    }

    @Holds(promise = 29, sentence = TENTHS)
    static void coldsNeverAndSurely() {
        SnoresGold x = Edges.menOn(6, 0);
        chanceIs(x, 0, 0, 1, 1);
        chanceIs(x, 0, 1, 0, 1);
        chanceIs(x, 0, -1, 0, 1);
        chanceIs(x, 10, 18, 1, 1);
        chanceIs(x, 10, 19, 0, 1);
        chanceIs(x, 10, -1, 18, 1);
    }

    @Holds(promise = 29, sentence = "that v or more (0 to 999) is HEARD at a CELL")
    static void coldsVIsEnough() {
        SnoresGold x = Edges.menOn(1, 0);
        chanceIs(x, 3, 0, 1, 1);
        chanceIs(x, 3, 1, 3, 10);
        chanceIs(x, 3, 2, 3, 10);
        chanceIs(x, 3, 3, 3, 10);
        chanceIs(x, 3, 4, 0, 1);
        chanceIs(x, 3, 999, 0, 1);
    }

    @Holds(promise = 29, sentence = "that v or more (0 to 999) is HEARD at a CELL")
    static void coldsTheMostThatCanBeHeard() {
        SnoresGold x = Edges.menOn(6, 0);
        for (int man = 0; man < 6; man++) {
            Edges.enrich(x, man, 11, 99);
        }
        chanceIs(x, 5, 594, 1, 1);
        chanceIs(x, 5, 595, 0, 1);
        chanceIs(x, 5, 999, 0, 1);
        chanceIs(x, 5, -1, 594, 1);
    }

    @Holds(promise = 29, sentence = LOWEST)
    static void coldsInLowestTerms() {
        SnoresGold x = Edges.menOn(6, 0);
        chanceIs(x, 1, 18, 1, 1000000);
        chanceIs(x, 9, 18, 531441, 1000000);
        chanceIs(x, 5, 18, 1, 64);
        chanceIs(x, 2, 18, 1, 15625);
        chanceIs(x, 1, -1, 9, 5);
        chanceIs(x, 5, -1, 9, 1);
        chanceIs(x, 5, 9, 21, 32);
    }

    @Holds(promise = 29, sentence = "each by himself, whatever he has now: that v or more (0 to 999) is HEARD "
        + "at a CELL; the mean")
    static void coldsWhateverHeHasNow() {
        SnoresGold x = Edges.menOn(1, 0);
        Due.write(x, "A*");
        x.done();
        due("he has a cold", x.told(13), 1);
        chanceIs(x, 0, 1, 0, 1);
        chanceIs(x, 0, -1, 0, 1);
        chanceIs(x, 5, 3, 1, 2);
        chanceIs(x, 10, 3, 1, 1);
        chanceIs(x, 10, 4, 0, 1);
        due("and has it still", x.told(13), 1);
    }

    @Holds(promise = 29, sentence = "99 at most")
    static void coldsASnoreOf99AtMost() {
        SnoresGold x = Edges.menOn(1, 0);
        Edges.enrich(x, 0, 0, 97);
        chanceIs(x, 5, 97, 1, 1);
        chanceIs(x, 5, 98, 1, 2);
        chanceIs(x, 5, 99, 1, 2);
        chanceIs(x, 5, 100, 0, 1);
        chanceIs(x, 5, -1, 98, 1);
    }

    @Holds(promise = 29, sentence = "half of it (cut) then, if he WHISTLES")
    static void coldsHalfOfAColdIsCut() {
        SnoresGold x = Edges.menOn(1, 0);
        Due.write(x, "A~");
        x.done();
        chanceIs(x, 5, 1, 1, 2);
        chanceIs(x, 5, 2, 0, 1);
        chanceIs(x, 5, -1, 1, 2);
    }

    @Holds(promise = 29, sentence = "0 at least, together")
    static void coldsFarOffIsNothing() {
        SnoresGold x = Edges.menOn(1, 0);
        chanceIs(x, new int[] {1, 5, -1}, 1, 1);
        chanceIs(x, new int[] {2, 5, -1}, 1, 2);
        chanceIs(x, new int[] {3, 5, -1}, 0, 1);
        chanceIs(x, new int[] {63, 5, -1}, 0, 1);
        chanceIs(x, new int[] {63, 10, 0}, 1, 1);
        x.man(1, 63);
        chanceIs(x, new int[] {63, 10, -1}, 3, 1);
    }

    @Holds(promise = 29, sentence = "each by himself, whatever he has now")
    static void coldsIsNotBehind() {
        String[] texts = {"Ae", "A", "G", "As"};
        for (String text : texts) {
            SnoresGold x = Edges.menOn(1, 0);
            Due.write(x, text);
            chanceIs(x, 10, -1, 3, 1);
        }
        Edges.changesNothing("colds(0, 0, 0, 0)", 1, Edges::some, x -> x.colds(0, 0, 0, 0));
    }

    // ---- Promise 30: year

    /** A knows and claims one cell with gold, and stands where none is: each night he gets this gold. */
    private static SnoresGold claimer(int gold) {
        SnoresGold x = Edges.menOn(1, 0);
        x.gold(36, gold);
        x.know(0, 36, true);
        x.claim(36, 0);
        return x;
    }

    @Holds(promise = 30, sentence = "OUTSIDE")
    static void yearByASeedOutside() {
        SnoresGold x = Edges.menOn(1, 0);
        Edges.refused("year(seed, 1, 0)", Edges.beside(0, 9999), OUTSIDE, x, (y, seed) -> y.year(seed, 1, 0));
    }

    @Holds(promise = 30, sentence = "OUTSIDE")
    static void yearOfActsOutside() {
        SnoresGold x = Edges.menOn(1, 0);
        Edges.refused("year(0, m, 0)", Edges.beside(1, 99), OUTSIDE, x, (y, m) -> y.year(0, m, 0));
        due("no acts", x.year(0, 0, 0), OUTSIDE);
        due("one hundred acts", x.year(0, 100, 0), OUTSIDE);
    }

    @Holds(promise = 30, sentence = "SALT (what = 0), CLAIMED (1), the old woman's (2)")
    static void yearOfAWhatOutside() {
        SnoresGold x = Edges.menOn(1, 0);
        Edges.refused("year(0, 1, what)", Edges.beside(0, 2), OUTSIDE, x, (y, what) -> y.year(0, 1, what));
    }

    @Holds(promise = 30, sentence = SEEDS)
    static void yearByTheLeastAndTheGreatestSeed() {
        int[] seeds = {0, 9999};
        for (int seed : seeds) {
            for (int m = 1; m <= 99; m += 7) {
                due("salt of year(" + seed + ", " + m + ")", claimer(7).year(seed, m, 0), 7 * Draws.nightsOf(seed, m));
            }
            due("salt of 99", claimer(7).year(seed, 99, 0), 7 * Draws.nightsOf(seed, 99));
        }
    }

    @Holds(promise = 30, sentence = SEEDS)
    static void yearOfOneAct() {
        SnoresGold x = Edges.menOn(1, 0);
        due("he claims", x.year(Draws.seedOf("Ac"), 1, 1), 1);
        due("he digs, and the claim is the second", x.year(Draws.seedOf("AdAc"), 1, 1), 0);
        due("both", x.year(Draws.seedOf("AdAc"), 2, 1), 1);
    }

    @Holds(promise = 30, sentence = SEEDS)
    static void yearOf99Acts() {
        int last = Draws.seedOfNightAt(99);
        due("98 acts", claimer(7).year(last, 98, 0), 7 * Draws.nightsOf(last, 98));
        due("the 99th counts", claimer(7).year(last, 99, 0), 7 * Draws.nightsOf(last, 98) + 7);
        int beyond = Draws.seedOfNightAt(100);
        due("the hundredth does not", claimer(7).year(beyond, 99, 0), 7 * Draws.nightsOf(beyond, 99));
    }

    @Holds(promise = 30, sentence = "becomes for each (75 x and 74) left over by 65537: of MAN x left over by 6, "
        + "by x by 6 (cut) left over by 8")
    static void yearTheDrawnNumberComesRound() {
        // From seed 873 on the first number drawn is 65537 or more before it is left over.
        SnoresGold x = Edges.menOn(6, 9);
        for (int man = 0; man < 6; man++) {
            x.man(man, 10 + 6 * man);
        }
        for (int seed = 9999; seed >= 0; seed -= 23) {
            due("year(" + seed + ", 1, 1)", x.year(seed, 1, 1), Draws.isClaimFirst(seed) ? 1 : 0);
        }
        due("seed 872", x.year(872, 1, 1), 0);
        due("seed 873", x.year(873, 1, 1), 0);
    }

    @Holds(promise = 30, sentence = "6 a night (whoever was drawn, there or not)")
    static void yearANightOfWhoeverWasDrawn() {
        for (int man = 0; man < 6; man++) {
            due("a night of " + man, claimer(9).year(Draws.seedOfNightOf(man), 1, 0), 9);
        }
    }

    @Holds(promise = 30, sentence = IF_IT_CAN_BE)
    static void yearOfNobody() {
        SnoresGold x = new SnoresGold();
        for (int seed = 0; seed < 100; seed++) {
            due("claimed by nobody", x.year(seed * 101, 99, 1), 0);
        }
    }

    @Holds(promise = 30, sentence = IF_IT_CAN_BE)
    static void yearHeDoesNotLeaveTheGround() {
        String[] steps = {"n", "e", "s", "w"};
        int[] corners = {0, 7, 56, 63};
        for (int corner : corners) {
            SnoresGold x = Edges.menOn(1, corner);
            x.claim(corner, 0);
            boolean[] leaves = {corner / 8 == 7, corner % 8 == 7, corner / 8 == 0, corner % 8 == 0};
            for (int i = 0; i < 4; i++) {
                int seed = Draws.seedOf("A" + steps[i] + "Ac");
                due(steps[i] + " from " + corner, x.year(seed, 2, 1), leaves[i] ? 1 : 2);
            }
        }
    }

    @Holds(promise = 30, sentence = IF_IT_CAN_BE)
    static void yearHeDoesNotClaimWhatIsClaimed() {
        SnoresGold x = Edges.menOn(2, 0);
        x.gold(0, 9);
        x.know(1, 0, true);
        x.claim(0, 1);
        due("what is B's stays B's", x.year(Draws.seedOf("Ac."), 2, 0), 9);
        due("still one", x.year(Draws.seedOf("Ac"), 1, 1), 1);
        x.know(1, 0, false);
        x.know(0, 0, true);
        due("and is not A's", x.year(Draws.seedOf("Ac."), 2, 0), 0);
    }

    @Holds(promise = 30, sentence = "SALT of all together; CELLS that are CLAIMED; what the old woman had")
    static void yearSaltOfAllAndOf999AtMost() {
        SnoresGold x = Edges.menOn(2, 0);
        for (int man = 0; man < 2; man++) {
            Edges.enrich(x, man, 32 * man + 9, 123);
            for (int cell = 0; cell < 14; cell++) {
                x.claim(32 * man + 9 + cell, man);
            }
        }
        Due.write(x, Edges.nights(9));
        x.done();
        due("A has 999", x.told(12), 999);
        due("a night more", x.year(Draws.seedOf("."), 1, 0), 2 * 999);
        due("the woman's is not less", x.year(Draws.seedOf("."), 1, 2), 2 * 12);
    }

    @Holds(promise = 30, sentence = "from all as it is")
    static void yearFromAllAsItIs() {
        SnoresGold x = claimer(9);
        Due.write(x, "...");
        x.done();
        int seed = Draws.seedOf("Ac");
        due("the salt that was", x.year(seed, 1, 0), 27);
        due("the claim that was", x.year(seed, 1, 1), 2);
        due("not what the woman had before", x.year(seed, 1, 2), 0);
        due("not what she had in a year", x.year(seed, 1, 2), 0);
        x.leave(0);
        due("not the salt of who is no more", x.year(seed, 1, 0), 0);
        due("nor his claims", x.year(seed, 1, 1), 0);
    }

    @Holds(promise = 30, sentence = "Nothing is DONE in fact.")
    static void yearIsNotDone() {
        for (int what = 0; what <= 2; what++) {
            int asked = what;
            int answer = Edges.some("AeAsA").year(7, 99, what);
            Edges.changesNothing("year(7, 99, " + what + ")", answer, () -> Edges.some("AeAsA"),
                x -> x.year(7, 99, asked));
        }
    }

    // ---- Promise 31: image

    @Holds(promise = 31, sentence = "OUTSIDE")
    static void imageOfANumberOutside() {
        SnoresGold x = new SnoresGold();
        Edges.refused("image(k)", Edges.beside(0, 1), OUTSIDE, x, (y, k) -> y.image(k));
        due("0 was not kept", x.restore(0), STATE);
        due("1 was not kept", x.restore(1), STATE);
    }

    @Holds(promise = 31, sentence = "All but the PAD is kept in an IMAGE (0, 1): 1")
    static void imageEachByItself() {
        SnoresGold x = new SnoresGold();
        due("image(0) of nobody", x.image(0), 1);
        x.man(0, 0);
        due("image(1) of A", x.image(1), 1);
        x.man(1, 0);
        x.restore(0);
        due("nobody", x.told(1), 0);
        x.restore(1);
        due("A", x.told(1), 1);
    }

    @Holds(promise = 31, sentence = "All but the PAD is kept in an IMAGE (0, 1): 1")
    static void imageTheLaterIsKept() {
        SnoresGold x = new SnoresGold();
        x.image(0);
        x.man(0, 0);
        due("image(0) again", x.image(0), 1);
        x.leave(0);
        x.restore(0);
        due("A", x.told(1), 1);
    }

    @Holds(promise = 31, sentence = "All but the PAD is kept in an IMAGE (0, 1): 1")
    static void imageIsNotOfThePad() {
        SnoresGold x = new SnoresGold();
        Due.write(x, "An");
        x.image(0);
        due("signs stay", x.told(0), 2);
        Due.write(x, Edges.nights(60));
        x.restore(0);
        due("as many as there were", x.wipe(), 60);
        x.restore(0);
        due("and none when there were none", x.told(0), 0);
        due("no fault", x.fault(), NONE);
    }

    @Holds(promise = 31, sentence = Edges.NO_CHANGE)
    static void imageRefusedChangesNothing() {
        Edges.changesNothing("image(2)", OUTSIDE, Edges::some, x -> x.image(2));
        Edges.changesNothing("image(-1)", OUTSIDE, Edges::some, x -> x.image(-1));
    }

    // ---- Promise 32: restore

    @Holds(promise = 32, sentence = "OUTSIDE")
    static void restoreOfANumberOutside() {
        SnoresGold x = new SnoresGold();
        x.image(0);
        x.image(1);
        Edges.refused("restore(k)", Edges.beside(0, 1), OUTSIDE, x, (y, k) -> y.restore(k));
    }

    @Holds(promise = 32, sentence = "STATE: it was not")
    static void restoreWhatWasNotKept() {
        SnoresGold x = new SnoresGold();
        due("restore(0)", x.restore(0), STATE);
        due("restore(1)", x.restore(1), STATE);
        x.image(1);
        due("restore(0) when 1 was", x.restore(0), STATE);
        due("restore(1)", x.restore(1), 1);
        SnoresGold y = new SnoresGold();
        y.image(0);
        due("restore(1) when 0 was", y.restore(1), STATE);
        due("restore(0)", y.restore(0), 1);
        due("restore(1) still", y.restore(1), STATE);
    }

    @Holds(promise = 32, sentence = Edges.ORDER)
    static void restoreOutsideBeforeState() {
        SnoresGold x = new SnoresGold();
        due("restore(2)", x.restore(2), OUTSIDE);
        due("restore(-1)", x.restore(-1), OUTSIDE);
    }

    private static SnoresGold other() {
        SnoresGold x = Edges.some();
        x.image(1);
        spoil(x);
        return x;
    }

    private static void spoil(SnoresGold x) {
        x.gold(9, 1);
        x.leave(0);
        x.man(1, 5);
        x.man(2, 5);
        x.claim(1, -1);
        x.claim(50, 5);
        x.hush();
        x.tale(5, 5, true);
        x.tale(5, 6, true);
        x.forget();
        x.seen(0, true);
    }

    @Holds(promise = 32, sentence = "It is as it was when it was kept: 1")
    static void restoreAllAsItWas() {
        SnoresGold x = other();
        due("restore(1)", x.restore(1), 1);
        SnoresGold y = Edges.some();
        y.image(1);
        Edges.same("restored", x, y);
    }

    @Holds(promise = 32, sentence = "It is as it was when it was kept: 1")
    static void restoreMoreThanOnce() {
        SnoresGold x = other();
        for (int time = 0; time < 3; time++) {
            due("restore(1)", x.restore(1), 1);
            due("gold and claim", x.told(109), 90);
            due("men", x.told(1), 1 + 4 + 16 + 32);
            spoil(x);
            due("spoilt", x.told(109), 19);
        }
    }

    @Holds(promise = 32, sentence = "It is as it was when it was kept: 1")
    static void restoreAnEmptyCamp() {
        SnoresGold x = new SnoresGold();
        x.image(0);
        x.man(0, 0);
        x.gold(0, 1);
        x.claim(0, 0);
        x.tale(0, 0, true);
        x.seen(0, true);
        due("restore(0)", x.restore(0), 1);
        Edges.same("restored", x, emptyWithImage());
    }

    private static SnoresGold emptyWithImage() {
        SnoresGold x = new SnoresGold();
        x.image(0);
        return x;
    }

    @Holds(promise = 32, sentence = Edges.NO_CHANGE)
    static void restoreRefusedChangesNothing() {
        Edges.changesNothing("restore(1)", STATE, () -> Edges.some("Ae"), x -> x.restore(1));
        Edges.changesNothing("restore(2)", OUTSIDE, () -> Edges.some("Ae"), x -> x.restore(2));
        Edges.changesNothing("restore(-1)", OUTSIDE, () -> Edges.some("Ae"), x -> x.restore(-1));
    }

    // ---- Promise 33: told

    @Holds(promise = 33, sentence = "0 signs, 1 MEN (bits), 2 TALES, 3 SIGHTS")
    static void toldNoneAndTheMost() {
        SnoresGold x = new SnoresGold();
        for (int what = 0; what < 4; what++) {
            due("told(" + what + ") of none", x.told(what), 0);
        }
        for (int man = 0; man < 6; man++) {
            x.man(man, 0);
        }
        Due.write(x, Edges.nights(60));
        for (int i = 0; i < 8; i++) {
            x.tale(0, 0, true);
            x.seen(0, true);
        }
        int[] most = {60, 63, 8, 8};
        for (int what = 0; what < 4; what++) {
            due("told(" + what + ") of the most", x.told(what), most[what]);
        }
    }

    @Holds(promise = 33, sentence = OF_MEN)
    static void toldOfTheFirstAndTheLastMan() {
        SnoresGold x = new SnoresGold();
        x.man(0, 63);
        x.man(5, 0);
        for (int cell = 0; cell < 64; cell++) {
            x.know(5, cell, true);
        }
        int[] ofA = {63, 0, 0, 0, 0, 0};
        int[] ofF = {0, 0, 0, 0, 0, 64};
        for (int item = 0; item < 6; item++) {
            due("told(" + (10 + item) + ")", x.told(10 + item), ofA[item]);
            due("told(" + (60 + item) + ")", x.told(60 + item), ofF[item]);
        }
        Due.write(x, "A*F~");
        x.done();
        int[] coldAndWhistle = {13, 14, 63, 64};
        int[] has = {1, 0, 0, 1};
        for (int i = 0; i < 4; i++) {
            due("told(" + coldAndWhistle[i] + ")", x.told(coldAndWhistle[i]), has[i]);
        }
    }

    @Holds(promise = 33, sentence = OF_MEN)
    static void toldOfWhoIsNotThere() {
        SnoresGold x = Edges.menOn(6, 0);
        for (int man = 0; man < 6; man++) {
            due("there", x.told(10 * (1 + man)), 0);
            due("there, knows", x.told(200 * (1 + man)), 0);
            x.leave(man);
            for (int item = 0; item < 10; item++) {
                due("no more: " + item, x.told(10 * (1 + man) + item), OUTSIDE);
            }
            due("no more, knows", x.told(200 * (1 + man)), OUTSIDE);
        }
    }

    @Holds(promise = 33, sentence = "100 and a CELL: 10 times its GOLD and by whom it is CLAIMED (9: nobody)")
    static void toldOfTheFirstAndTheLastCell() {
        SnoresGold x = Edges.menOn(6, 0);
        due("first, at first", x.told(100), 9);
        due("last, at first", x.told(163), 9);
        x.gold(0, 9);
        x.gold(63, 1);
        due("first with gold", x.told(100), 99);
        due("last with gold", x.told(163), 19);
        x.claim(0, 0);
        x.claim(63, 5);
        due("first of A", x.told(100), 90);
        due("last of F", x.told(163), 15);
    }

    @Holds(promise = 33, sentence = "200 times (1 and a MAN who is there) and a CELL: whether he KNOWS it (1, 0)")
    static void toldWhetherHeKnowsTheFirstAndTheLastCell() {
        SnoresGold x = Edges.menOn(6, 0);
        x.know(0, 0, true);
        x.know(5, 63, true);
        int[] what = {200, 263, 1200, 1263, 400, 463, 231, 232};
        int[] knows = {1, 0, 0, 1, 0, 0, 0, 0};
        for (int i = 0; i < what.length; i++) {
            due("told(" + what[i] + ")", x.told(what[i]), knows[i]);
        }
    }

    @Holds(promise = 33, sentence = "OUTSIDE")
    static void toldOfANumberOutside() {
        Edges.refused("told(what)", Edges.beside(0, 1263), OUTSIDE, Edges.menOn(6, 0), (x, what) -> x.told(what));
        due("told(-1)", Edges.menOn(6, 0).told(-1), OUTSIDE);
        due("told(1264)", Edges.menOn(6, 0).told(1264), OUTSIDE);
    }

    @Holds(promise = 33, sentence = "OUTSIDE")
    static void toldOfEachNumberThatMayBe() {
        for (int from = -300; from < 2000; from += 400) {
            SnoresGold x = new SnoresGold();
            x.man(0, 0);
            x.man(3, 0);
            x.man(5, 0);
            for (int what = from; what < from + 400; what++) {
                due("told(" + what + ") is outside", x.told(what) == OUTSIDE ? 1 : 0, isTold(what) ? 0 : 1);
            }
        }
    }

    /** Whether anything is told by that number in a camp of A, D and F. */
    private static boolean isTold(int what) {
        int[] men = {0, 3, 5};
        boolean is = what >= 0 && what <= 3 || what >= 100 && what <= 163;
        for (int man : men) {
            is |= what >= 10 * (1 + man) && what <= 10 * (1 + man) + 5;
            is |= what >= 200 * (1 + man) && what <= 200 * (1 + man) + 63;
        }
        return is;
    }

    @Holds(promise = 33, sentence = "Sets are bits.")
    static void toldOfMenAsBits() {
        for (int man = 0; man < 6; man++) {
            SnoresGold x = new SnoresGold();
            x.man(man, 0);
            due("told(1) of " + man, x.told(1), 1 << man);
            x.tale(man, 0, true);
            x.man((man + 1) % 6, 0);
            x.tale((man + 1) % 6, 0, false);
            due("liars(1) of two", x.liars(1), man == 5 ? 1 : 1 << man);
        }
    }

    @Holds(promise = 33, sentence = "0 signs, 1 MEN (bits), 2 TALES, 3 SIGHTS")
    static void toldIsNotBehind() {
        SnoresGold x = Edges.some("AeAd.A");
        due("tent", x.told(10), 0);
        due("signs", x.told(0), 6);
        Edges.changesNothing("told(10)", 0, () -> Edges.some("AeAdA"), y -> y.told(10));
    }
}
