/** The edges that the document names for promises 17 to 22, each with the sentence that it holds. */
final class TentsEdges {
    private static final int UNKNOWN = Edges.UNKNOWN, OUTSIDE = Edges.OUTSIDE, FULL = Edges.FULL, NONE = Edges.NONE;
    private static final String STEPS = "by k steps at most (0 to 14)";
    private static final String STAY = "(of one who is no more, too: they stay)";
    private static final String FEWEST = "the fewest MEN who lie so that all TALES hold of some GROUND (each "
        + "CELL with GOLD or none, whatever it really is; of one CELL all say the same who say the truth, and who lie "
        + "say the other): how many";
    private static final String TWOS = "himself: alone, who is not there, too)";
    private static final String LEAST_TWO = "the least two (10 times the lesser and the greater) who are not together";
    private static final String ALONE = "or one who would have more alone than now (11 times him, as with himself";

    private TentsEdges() {
    }

    private static void due(String call, long got, long want) {
        Edges.due(call, got, want);
    }

    /** A and B on one cell, both as loud. */
    private static SnoresGold twoOn(int cell, int snore) {
        SnoresGold x = Edges.menOn(2, cell);
        Edges.enrich(x, 0, 0, snore);
        Edges.enrich(x, 1, 0, snore);
        return x;
    }

    private static void sleeps(SnoresGold x, int k, int cell, int heard) {
        due("sleep(0, " + k + ", 0)", x.sleep(0, k, 0), cell);
        due("sleep(0, " + k + ", 1)", x.sleep(0, k, 1), heard);
    }

    private static void hides(SnoresGold x, int k, int cell, int heard) {
        due("hide(0, " + k + ", 0)", x.hide(0, k, 0), cell);
        due("hide(0, " + k + ", 1)", x.hide(0, k, 1), heard);
    }

    // ---- Promise 17: sleep

    @Holds(promise = 17, sentence = "the CELL (what = 0), how much (1)")
    static void sleepWithoutOthers() {
        SnoresGold x = Edges.menOn(1, 63);
        Edges.enrich(x, 0, 0, 99);
        sleeps(x, 0, 63, 0);
        sleeps(x, 1, 55, 0);
        sleeps(x, 3, 39, 0);
        sleeps(x, 14, 0, 0);
    }

    @Holds(promise = 17, sentence = STEPS)
    static void sleepByNoStep() {
        sleeps(twoOn(0, 15), 0, 0, 15);
        sleeps(twoOn(63, 15), 0, 63, 15);
    }

    @Holds(promise = 17, sentence = STEPS)
    static void sleepBy13And14StepsFromCornerToCorner() {
        sleeps(twoOn(0, 15), 14, 63, 1);
        sleeps(twoOn(0, 15), 13, 55, 2);
        sleeps(twoOn(63, 15), 14, 0, 1);
        sleeps(twoOn(63, 15), 13, 1, 2);
        sleeps(twoOn(7, 15), 14, 56, 1);
        sleeps(twoOn(56, 15), 14, 7, 1);
    }

    @Holds(promise = 17, sentence = "OUTSIDE")
    static void sleepByStepsOutside() {
        Edges.refused("sleep(0, k, 0)", Edges.beside(0, 14), OUTSIDE, twoOn(0, 15), (x, k) -> x.sleep(0, k, 0));
    }

    @Holds(promise = 17, sentence = "OUTSIDE")
    static void sleepOfAWhatOutside() {
        Edges.refused("sleep(0, 0, what)", Edges.beside(0, 1), OUTSIDE, twoOn(0, 15), (x, w) -> x.sleep(0, 0, w));
    }

    @Holds(promise = 17, sentence = "UNKNOWN")
    static void sleepOfWhoIsNot() {
        SnoresGold x = twoOn(0, 15);
        due("sleep(2, 0, 0)", x.sleep(2, 0, 0), UNKNOWN);
        Edges.refused("sleep(man, 0, 0)", Edges.beside(0, 5), UNKNOWN, x, (y, man) -> y.sleep(man, 0, 0));
        x.leave(0);
        due("who is no more", x.sleep(0, 0, 0), UNKNOWN);
    }

    @Holds(promise = 17, sentence = Edges.ORDER)
    static void sleepUnknownBeforeOutside() {
        SnoresGold x = twoOn(0, 15);
        due("sleep(2, 15, 0)", x.sleep(2, 15, 0), UNKNOWN);
        due("sleep(6, 0, 2)", x.sleep(6, 0, 2), UNKNOWN);
        due("sleep(-1, -1, -1)", x.sleep(-1, -1, -1), UNKNOWN);
    }

    @Holds(promise = 17, sentence = "his own being no matter (the least such CELL); how much is")
    static void sleepHisOwnIsNoMatter() {
        SnoresGold x = Edges.menOn(2, 27);
        Edges.enrich(x, 0, 0, 99);
        sleeps(x, 0, 27, 0);
        x.gold(60, 2);
        x.know(1, 60, true);
        sleeps(x, 0, 27, 2);
    }

    @Holds(promise = 17, sentence = "(the least such CELL)")
    static void sleepTheLeastOfAsGoodOnes() {
        SnoresGold x = twoOn(27, 1);
        sleeps(x, 1, 19, 0);
        sleeps(x, 2, 11, 0);
        sleeps(twoOn(27, 2), 1, 19, 1);
    }

    @Holds(promise = 17, sentence = STEPS)
    static void sleepStepsDoNotComeRound() {
        // From the last cell of a row the next number is eight steps off.
        sleeps(twoOn(7, 15), 1, 6, 14);
        sleeps(twoOn(7, 15), 7, 0, 8);
        sleeps(twoOn(7, 15), 8, 8, 7);
        sleeps(twoOn(8, 15), 1, 0, 14);
    }

    @Holds(promise = 17, sentence = "so that least is HEARD of all the others at it")
    static void sleepNothingHeardIsTheLeast() {
        SnoresGold x = Edges.menOn(3, 0);
        Edges.enrich(x, 1, 0, 4);
        x.man(2, 63);
        x.know(2, 0, true);
        // B is heard up to 3 off from 0, C up to 3 off from 63: neither takes from the other below 0.
        sleeps(x, 14, 4, 0);
        sleeps(x, 3, 3, 1);
    }

    @Holds(promise = 17, sentence = "(As things are now.)")
    static void sleepIsNotBehind() {
        String[] texts = {"A", "G", "AsAs", "BeBe", "B*"};
        for (String text : texts) {
            SnoresGold x = twoOn(0, 15);
            Due.write(x, text);
            sleeps(x, 0, 0, 15);
        }
        Edges.changesNothing("sleep(0, 14, 0)", 63, () -> twoOn(0, 15), x -> x.sleep(0, 14, 0));
    }

    // ---- Promise 18: hide

    @Holds(promise = 18, sentence = "without others 0 everywhere: the least CELL in reach); how much")
    static void hideWithoutOthers() {
        SnoresGold x = Edges.menOn(1, 63);
        Edges.enrich(x, 0, 0, 99);
        hides(x, 0, 63, 0);
        hides(x, 1, 55, 0);
        hides(x, 3, 39, 0);
        hides(x, 13, 1, 0);
        hides(x, 14, 0, 0);
    }

    @Holds(promise = 18, sentence = STEPS)
    static void hideBy0And13And14Steps() {
        hides(twoOn(0, 15), 0, 0, 15);
        hides(twoOn(0, 15), 14, 63, 1);
        hides(twoOn(0, 15), 13, 55, 2);
        hides(twoOn(63, 15), 14, 0, 1);
        hides(twoOn(7, 15), 14, 56, 1);
        hides(twoOn(56, 15), 14, 7, 1);
    }

    @Holds(promise = 18, sentence = "OUTSIDE")
    static void hideByStepsOutside() {
        Edges.refused("hide(0, k, 0)", Edges.beside(0, 14), OUTSIDE, twoOn(0, 15), (x, k) -> x.hide(0, k, 0));
    }

    @Holds(promise = 18, sentence = "OUTSIDE")
    static void hideOfAWhatOutside() {
        Edges.refused("hide(0, 0, what)", Edges.beside(0, 1), OUTSIDE, twoOn(0, 15), (x, w) -> x.hide(0, 0, w));
    }

    @Holds(promise = 18, sentence = "UNKNOWN")
    static void hideOfWhoIsNot() {
        SnoresGold x = twoOn(0, 15);
        due("hide(2, 0, 0)", x.hide(2, 0, 0), UNKNOWN);
        Edges.refused("hide(man, 0, 0)", Edges.beside(0, 5), UNKNOWN, x, (y, man) -> y.hide(man, 0, 0));
        x.leave(0);
        due("who is no more", x.hide(0, 0, 0), UNKNOWN);
    }

    @Holds(promise = 18, sentence = Edges.ORDER)
    static void hideUnknownBeforeOutside() {
        SnoresGold x = twoOn(0, 15);
        due("hide(2, 15, 0)", x.hide(2, 15, 0), UNKNOWN);
        due("hide(6, 0, 2)", x.hide(6, 0, 2), UNKNOWN);
        due("hide(-1, -1, -1)", x.hide(-1, -1, -1), UNKNOWN);
    }

    @Holds(promise = 18, sentence = "(each less by how far, each 0 at least")
    static void hideEach0AtLeast() {
        SnoresGold x = twoOn(0, 5);
        x.man(2, 63);
        // Nine too far for C, which takes nothing from what B hears.
        hides(x, 0, 0, 5);
        hides(x, 4, 4, 1);
        hides(x, 5, 5, 0);
    }

    @Holds(promise = 18, sentence = "of his SNORE least is heard at the TENTS of the others, together")
    static void hideFromAllTheOthers() {
        SnoresGold x = Edges.menOn(6, 9);
        Edges.enrich(x, 0, 0, 99);
        hides(x, 0, 9, 5 * 99);
        hides(x, 1, 1, 5 * 98);
        x.leave(5);
        hides(x, 0, 9, 4 * 99);
        x.leave(1);
        x.know(2, 0, true);
        due("heard by the first man, too", x.hide(2, 0, 1), 3 * 9);
    }

    @Holds(promise = 18, sentence = "the CELL (what = 0), how much (1)")
    static void hideWhoMakesNoSound() {
        SnoresGold x = Edges.menOn(2, 63);
        Edges.enrich(x, 1, 0, 99);
        hides(x, 0, 63, 0);
        hides(x, 1, 55, 0);
    }

    @Holds(promise = 18, sentence = "(As things are now.)")
    static void hideIsNotBehind() {
        String[] texts = {"A", "G", "AsAs", "AeAe", "A*"};
        for (String text : texts) {
            SnoresGold x = twoOn(0, 15);
            Due.write(x, text);
            hides(x, 0, 0, 15);
        }
        Edges.changesNothing("hide(0, 14, 0)", 63, () -> twoOn(0, 15), x -> x.hide(0, 14, 0));
    }

    // ---- Promise 19: tale

    @Holds(promise = 19, sentence = "UNKNOWN")
    static void taleOfWhoIsNot() {
        SnoresGold x = Edges.menOn(2, 0);
        due("tale(2, 0, true)", x.tale(2, 0, true), UNKNOWN);
        Edges.refused("tale(man, 0, true)", Edges.beside(0, 5), UNKNOWN, x, (y, man) -> y.tale(man, 0, true));
        x.leave(0);
        due("who is no more", x.tale(0, 0, true), UNKNOWN);
        due("tales", x.told(2), 0);
    }

    @Holds(promise = 19, sentence = "OUTSIDE")
    static void taleOfACellOutside() {
        SnoresGold x = Edges.menOn(1, 0);
        Edges.refused("tale(0, cell, true)", Edges.beside(0, 63), OUTSIDE, x, (y, cell) -> y.tale(0, cell, true));
        due("tales", x.told(2), 0);
        due("first cell", x.tale(0, 0, true), 1);
        due("last cell", x.tale(0, 63, true), 2);
    }

    @Holds(promise = 19, sentence = "FULL")
    static void taleTheNinth() {
        SnoresGold x = Edges.menOn(1, 0);
        for (int i = 1; i <= 8; i++) {
            due("tale " + i, x.tale(0, i, i % 2 == 0), i);
        }
        due("tale 9", x.tale(0, 1, true), FULL);
        due("tale 9 again", x.tale(0, 9, true), FULL);
        due("tales", x.told(2), 8);
        due("the ninth is not told", x.liars(0), 0);
    }

    @Holds(promise = 19, sentence = "TALES, 8 at most")
    static void taleTheEighthCounts() {
        SnoresGold x = Edges.menOn(2, 0);
        for (int i = 1; i <= 7; i++) {
            x.tale(0, i, true);
        }
        due("no liar of seven", x.liars(0), 0);
        due("tale 8", x.tale(1, 7, false), 8);
        due("one of eight", x.liars(0), 1);
    }

    @Holds(promise = 19, sentence = "A TALE more: how many")
    static void taleTheSameAgainIsOneMore() {
        SnoresGold x = Edges.menOn(1, 0);
        due("tale(0, 0, true)", x.tale(0, 0, true), 1);
        due("again", x.tale(0, 0, true), 2);
    }

    @Holds(promise = 19, sentence = Edges.ORDER)
    static void taleUnknownBeforeOutsideBeforeFull() {
        SnoresGold x = Edges.menOn(1, 0);
        due("tale(1, 64, true)", x.tale(1, 64, true), UNKNOWN);
        for (int i = 0; i < 8; i++) {
            x.tale(0, 0, true);
        }
        due("tale(1, 0, true) of nine", x.tale(1, 0, true), UNKNOWN);
        due("tale(6, 64, true) of nine", x.tale(6, 64, true), UNKNOWN);
        due("tale(0, 64, true) of nine", x.tale(0, 64, true), OUTSIDE);
        due("tale(0, 0, true) of nine", x.tale(0, 0, true), FULL);
    }

    @Holds(promise = 19, sentence = STAY)
    static void taleStaysOfWhoIsNoMore() {
        SnoresGold x = Edges.menOn(2, 0);
        x.tale(0, 0, true);
        x.tale(1, 0, false);
        x.leave(0);
        x.leave(1);
        due("tales", x.told(2), 2);
        due("one lies", x.liars(0), 1);
        x.man(0, 9);
        due("tales when he is anew", x.told(2), 2);
        due("and one more", x.tale(0, 0, true), 3);
        due("he or the other", x.liars(1), 1);
    }

    private static SnoresGold fullOfTales() {
        SnoresGold x = Edges.some();
        for (int i = 0; i < 6; i++) {
            x.tale(5, i, true);
        }
        return x;
    }

    @Holds(promise = 19, sentence = Edges.NO_CHANGE)
    static void taleRefusedChangesNothing() {
        Edges.changesNothing("tale 9", FULL, () -> fullOfTales(), x -> x.tale(0, 9, false));
        Edges.changesNothing("tale 9", FULL, () -> fullOfTales(), x -> x.tale(4, 5, false));
        Edges.changesNothing("tale(1, 0, true)", UNKNOWN, Edges::some, x -> x.tale(1, 0, true));
        Edges.changesNothing("tale(0, 64, true)", OUTSIDE, Edges::some, x -> x.tale(0, 64, true));
    }

    // ---- Promise 20: hush

    @Holds(promise = 20, sentence = "how many there were")
    static void hushNone() {
        SnoresGold x = new SnoresGold();
        due("hush()", x.hush(), 0);
        due("hush() again", x.hush(), 0);
    }

    @Holds(promise = 20, sentence = "how many there were")
    static void hushEight() {
        SnoresGold x = fullOfTales();
        x.tale(0, 9, true);
        due("hush()", x.hush(), 8);
        due("hush() again", x.hush(), 0);
    }

    @Holds(promise = 20, sentence = "TALES go")
    static void hushMakesRoomForEight() {
        SnoresGold x = Edges.menOn(1, 0);
        for (int i = 0; i < 8; i++) {
            x.tale(0, 0, i % 2 == 0);
        }
        due("he against himself", x.liars(0), NONE);
        x.hush();
        due("no tale, no liar", x.liars(0), 0);
        for (int i = 1; i <= 8; i++) {
            due("tale " + i, x.tale(0, 0, false), i);
        }
        due("tale 9", x.tale(0, 0, false), FULL);
        due("none of what is gone", x.liars(0), 0);
    }

    // ---- Promise 21: liars

    private static void lie(SnoresGold x, int many, int who) {
        due("liars(0)", x.liars(0), many);
        due("liars(1)", x.liars(1), who);
    }

    @Holds(promise = 21, sentence = "how many (what = 0), who (1)")
    static void liarsWithoutTales() {
        lie(new SnoresGold(), 0, 0);
        lie(Edges.menOn(6, 0), 0, 0);
    }

    @Holds(promise = 21, sentence = "NONE")
    static void liarsWhenNoneCanBe() {
        SnoresGold x = Edges.menOn(2, 0);
        x.tale(0, 0, true);
        x.tale(0, 0, false);
        lie(x, NONE, NONE);
        x.hush();
        x.tale(0, 0, true);
        x.tale(1, 0, false);
        x.tale(0, 63, true);
        x.tale(1, 63, true);
        lie(x, NONE, NONE);
    }

    @Holds(promise = 21, sentence = "OUTSIDE")
    static void liarsOfAWhatOutside() {
        SnoresGold x = Edges.menOn(1, 0);
        Edges.refused("liars(what)", Edges.beside(0, 1), OUTSIDE, x, (y, what) -> y.liars(what));
        x.tale(0, 0, true);
        x.tale(0, 0, false);
        due("when none can be", x.liars(2), OUTSIDE);
    }

    @Holds(promise = 21, sentence = FEWEST)
    static void liarsThreeAtTheMost() {
        SnoresGold x = Edges.menOn(6, 0);
        for (int man = 0; man < 6; man++) {
            x.tale(man, man / 2, man % 2 == 0);
        }
        lie(x, 3, 1 + 4 + 16);
    }

    @Holds(promise = 21, sentence = FEWEST)
    static void liarsOneAgainstFive() {
        for (int alone = 0; alone < 6; alone++) {
            SnoresGold x = Edges.menOn(6, 0);
            for (int man = 0; man < 6; man++) {
                x.tale(man, 63, man != alone);
            }
            lie(x, 1, 1 << alone);
        }
    }

    @Holds(promise = 21, sentence = "who, least as bits; NONE")
    static void liarsTheLeastOfAsMany() {
        for (int lesser = 0; lesser < 5; lesser++) {
            SnoresGold x = Edges.menOn(6, 0);
            x.tale(5, 1, true);
            x.tale(lesser, 1, false);
            lie(x, 1, 1 << lesser);
        }
        SnoresGold x = Edges.menOn(6, 0);
        int[] yes = {5, 0, 1};
        int[] no = {4, 3, 2};
        for (int i = 0; i < 3; i++) {
            x.tale(yes[i], 1, true);
            x.tale(no[i], 1, false);
        }
        lie(x, 3, 4 + 8 + 16);
    }

    @Holds(promise = 21, sentence = "who lies does so in all his TALES, who does not, in none")
    static void liarsInAllTheirTales() {
        SnoresGold x = Edges.menOn(3, 0);
        x.tale(0, 1, true);
        x.tale(0, 2, true);
        x.tale(1, 1, false);
        x.tale(2, 2, false);
        lie(x, 1, 1);
        x.tale(1, 2, true);
        lie(x, NONE, NONE);
    }

    @Holds(promise = 21, sentence = "(each CELL with GOLD or none, whatever it really is")
    static void liarsWhateverTheGroundIs() {
        SnoresGold x = Edges.menOn(2, 0);
        x.gold(0, 9);
        x.tale(0, 0, false);
        x.tale(1, 1, true);
        lie(x, 0, 0);
        x.gold(0, 0);
        x.gold(1, 0);
        lie(x, 0, 0);
    }

    @Holds(promise = 21, sentence = "MEN say of CELLS that there is GOLD in them, or none: TALES")
    static void liarsOfAllSixAndEightTales() {
        SnoresGold x = Edges.menOn(6, 0);
        for (int tale = 0; tale < 8; tale++) {
            x.tale(tale % 6, 9, tale != 7);
        }
        // B says both of cell 9.
        lie(x, NONE, NONE);
    }

    @Holds(promise = 21, sentence = "of one CELL all say the same who say the truth, and who lie say the other")
    static void liarsOfOtherCellsAreNoMatter() {
        SnoresGold x = Edges.menOn(2, 0);
        x.tale(0, 0, true);
        x.tale(1, 63, false);
        x.tale(0, 31, true);
        x.tale(1, 32, false);
        lie(x, 0, 0);
    }

    @Holds(promise = 21, sentence = STAY)
    static void liarsWhoAreNoMore() {
        SnoresGold x = Edges.menOn(2, 0);
        x.tale(0, 0, true);
        x.tale(1, 0, false);
        x.leave(0);
        lie(x, 1, 1);
        x.leave(1);
        lie(x, 1, 1);
    }

    // ---- Promise 22: leaves

    @Holds(promise = 22, sentence = "OUTSIDE: six digits that are no such twos")
    static void leavesOfANumberOutside() {
        SnoresGold x = Edges.menOn(6, 0);
        Edges.refused("leaves(twos)", Edges.beside(0, 999999), OUTSIDE, x, (y, twos) -> y.leaves(twos));
        due("leaves(-12345)", x.leaves(-12345), OUTSIDE);
        due("leaves(1012345)", x.leaves(1012345), OUTSIDE);
    }

    @Holds(promise = 22, sentence = "OUTSIDE: six digits that are no such twos")
    static void leavesOfDigitsThatAreNoMen() {
        SnoresGold x = Edges.menOn(6, 0);
        int[] twos = {612345, 62345, 16345, 12645, 12365, 12346, 12347, 12348, 12349, 912345, 999999};
        Edges.refused("leaves(twos)", twos, OUTSIDE, x, (y, two) -> y.leaves(two));
    }

    @Holds(promise = 22, sentence = "OUTSIDE: six digits that are no such twos")
    static void leavesWhenOneIsWithWhoIsNotWithHim() {
        SnoresGold x = Edges.menOn(6, 0);
        int[] twos = {0, 112345, 2345, 120345, 123450, 501234, 555555, 12344, 12355, 103244};
        Edges.refused("leaves(twos)", twos, OUTSIDE, x, (y, two) -> y.leaves(two));
    }

    @Holds(promise = 22, sentence = TWOS)
    static void leavesWhoIsNotThereIsAlone() {
        SnoresGold x = Edges.menOn(5, 0);
        int[] withF = {512340, 52341, 15342, 12543, 12354};
        Edges.refused("leaves(twos)", withF, OUTSIDE, x, (y, twos) -> y.leaves(twos));
        due("all alone", x.leaves(12345), NONE);
        due("two together", x.leaves(102345), NONE);
        due("four together", x.leaves(103245), NONE);
        due("0 with 4", x.leaves(412305), NONE);
    }

    @Holds(promise = 22, sentence = TWOS)
    static void leavesOfNobody() {
        SnoresGold x = new SnoresGold();
        due("all alone", x.leaves(12345), NONE);
        due("two together", x.leaves(102345), OUTSIDE);
        due("the last two", x.leaves(12354), OUTSIDE);
        x.man(0, 0);
        due("with one who is not there", x.leaves(102345), OUTSIDE);
        due("alone", x.leaves(12345), NONE);
    }

    @Holds(promise = 22, sentence = "(six digits, MAN 0's the highest: with whom he is")
    static void leavesTheHighestDigitIsOf0() {
        SnoresGold x = Edges.menOn(3, 0);
        due("0 with 1", x.leaves(102345), NONE);
        x.leave(2);
        due("0 with 1 still", x.leaves(102345), NONE);
        due("0 with 2", x.leaves(210345), OUTSIDE);
        due("4 with 5", x.leaves(12354), OUTSIDE);
    }

    @Holds(promise = 22, sentence = "LEAVES; NONE")
    static void leavesAllWithAll() {
        SnoresGold x = Edges.menOn(6, 0);
        int[] twos = {12345, 543210, 103254, 345012, 230154, 452301};
        Edges.refused("leaves(twos)", twos, NONE, x, (y, two) -> y.leaves(two));
    }

    @Holds(promise = 22, sentence = ALONE)
    static void leavesTheFirstAndTheLastAlone() {
        SnoresGold x = Edges.menOn(6, 0);
        x.gold(9, 1);
        x.know(5, 9, true);
        due("5 with 4", x.leaves(12354), 55);
        due("5 with 0", x.leaves(512340), 55);
        due("5 alone", x.leaves(12345), NONE);
        x.know(0, 9, true);
        due("0 with 1", x.leaves(102345), 0);
        due("both leave: the least", x.leaves(103254), 0);
        due("as much with who knows the same is half", x.leaves(512340), 0);
    }

    @Holds(promise = 22, sentence = "each the half of it (not cut); one alone has that of those that he KNOWS")
    static void leavesAHalfIsNotCut() {
        SnoresGold x = Edges.menOn(2, 0);
        x.gold(0, 5);
        x.gold(1, 4);
        x.know(0, 0, true);
        x.know(1, 1, true);
        // 4 and a half each: 0 has more alone, 1 has not.
        due("5 is more than 4 and a half", x.leaves(102345), 0);
        x.gold(0, 4);
        x.gold(1, 5);
        due("4 is not more than 4 and a half, 5 is", x.leaves(102345), 11);
        x.gold(1, 4);
        due("4 is not more than 4", x.leaves(102345), NONE);
    }

    @Holds(promise = 22, sentence = "each the half of it (not cut)")
    static void leavesAHalfMoreIsMore() {
        SnoresGold x = Edges.menOn(3, 0);
        Edges.enrich(x, 0, 0, 5);
        Edges.enrich(x, 1, 10, 12);
        Edges.enrich(x, 2, 20, 4);
        // 1 and 2 have 8 each; 0 and 1 would have 8 and a half each.
        due("8 and a half is more than 8", x.leaves(21345), 1);
        x.gold(0, 4);
        due("8 is not; but 1 alone has 12", x.leaves(21345), 11);
    }

    @Holds(promise = 22, sentence = LEAST_TWO)
    static void leavesTheGreatestTwo() {
        SnoresGold x = Edges.menOn(6, 0);
        int[] cells = {10, 20, 21, 22};
        for (int cell : cells) {
            x.gold(cell, 4);
        }
        x.know(4, 10, true);
        x.know(0, 20, true);
        x.know(5, 20, true);
        x.know(5, 21, true);
        x.know(5, 22, true);
        // 0 and 4 have 4 each, 5 and 1 have 6; 4 and 5 would have 8 each; 5 alone, too, has more: 55 comes later.
        due("4 and 5", x.leaves(452301), 45);
        x.gold(10, 0);
        x.gold(20, 0);
        // 0 and 4 have none, 5 and 1 have 4; 4 and 5 would have 4 each, as 5 has now.
        due("as much is not more", x.leaves(452301), 55);
    }

    @Holds(promise = 22, sentence = "and would each have more so than now")
    static void leavesWhoAreTogetherDoNotLeaveForEachOther() {
        SnoresGold x = Edges.menOn(2, 0);
        x.gold(0, 9);
        x.know(0, 0, true);
        x.know(1, 0, true);
        due("each alone has more: the least", x.leaves(102345), 0);
        x.gold(1, 9);
        x.know(1, 1, true);
        x.know(0, 0, false);
        due("1 alone has more, 0 has not", x.leaves(102345), 11);
    }

    @Holds(promise = 22, sentence = "the least of all these); NONE")
    static void leavesTheLeastOfAllThese() {
        SnoresGold x = Edges.menOn(4, 0);
        x.gold(0, 2);
        x.gold(1, 8);
        x.know(0, 0, true);
        x.know(1, 1, true);
        // 0 with 2, 1 with 3: 0 and 1 would have 5 each, more than 1 and 4; 0 alone has 2, more than 1: 0.
        due("0 alone comes first", x.leaves(230145), 0);
        x.know(2, 1, true);
        // Now 0 has 5 with 2; 1 with 3 has 4, alone 8.
        due("1 alone", x.leaves(230145), 11);
        x.know(2, 1, false);
        x.gold(2, 2);
        x.know(2, 2, true);
        // 0 has 2 with 2 and alone; 1 has 4 with 3; 0 and 1 would have 5 each, and 1 alone 8.
        due("0 and 1 before 1 alone", x.leaves(230145), 1);
    }

    @Holds(promise = 22, sentence = "(As things are now.)")
    static void leavesIsNotBehind() {
        SnoresGold x = Edges.menOn(2, 0);
        x.gold(0, 5);
        String[] texts = {"Ad", "A", "G", "As"};
        for (String text : texts) {
            Due.write(x, text);
            due("with " + text, x.leaves(102345), NONE);
        }
        Edges.changesNothing("leaves(12345)", NONE, Edges::some, y -> y.leaves(12345));
        Edges.changesNothing("leaves(102345)", OUTSIDE, Edges::some, y -> y.leaves(102345));
    }
}
