/** The edges that the document names for promises 1 to 9, each with the sentence that it holds. */
final class GroundEdges {
    private static final int UNKNOWN = Edges.UNKNOWN, OUTSIDE = Edges.OUTSIDE, FULL = Edges.FULL, NONE = Edges.NONE;
    private static final String CELLS = "GROUND is of CELLS 0 to 63";
    private static final String MEN = "MEN 0 to 5 (A to F), some of whom there are (none at first)";
    private static final String NO_FAULT = "(an empty PAD has no FAULT: no ACTS)";
    private static final String FIRST_WRONG_SIGN = "the place (from 0 on) of the first sign that can not stand there";
    private static final String MORE_MUST_COME = "or the number of signs, if more must come";

    private GroundEdges() {
    }

    private static void due(String call, long got, long want) {
        Edges.due(call, got, want);
    }

    // ---- Promise 1: a new object

    @Holds(promise = 1, sentence = "No GOLD")
    static void newNoGoldInAnyCell() {
        SnoresGold x = new SnoresGold();
        for (int cell = 0; cell < 64; cell++) {
            due("gold(" + cell + ", 1)", x.gold(cell, 1), 0);
        }
    }

    @Holds(promise = 1, sentence = "nobody is there")
    static void newNobodyIsThere() {
        SnoresGold x = new SnoresGold();
        due("told(1)", x.told(1), 0);
        for (int man = 0; man < 6; man++) {
            due("told of man " + man, x.told(10 * (1 + man)), OUTSIDE);
            due("behind(" + man + ", 0)", x.behind(man, 0), UNKNOWN);
            due("leave(" + man + ")", x.leave(man), UNKNOWN);
        }
    }

    @Holds(promise = 1, sentence = "CELLS are CLAIMED by a MAN, or nobody's (at first).")
    static void newEachCellIsNobodys() {
        SnoresGold x = new SnoresGold();
        for (int cell = 0; cell < 64; cell++) {
            due("whose(" + cell + ")", x.whose(cell), NONE);
        }
        due("none is claimed", x.claim(0, -1), 0);
    }

    @Holds(promise = 1, sentence = "0 at first)")
    static void newGoldIsToldAs0() {
        SnoresGold x = new SnoresGold();
        for (int cell = 0; cell < 64; cell++) {
            due("told(" + (100 + cell) + ")", x.told(100 + cell), 9);
        }
    }

    @Holds(promise = 1, sentence = "No GOLD, nobody is there.")
    static void newHasNothingElse() {
        SnoresGold x = new SnoresGold();
        due("signs", x.wipe(), 0);
        due("tales", x.hush(), 0);
        due("sights", x.forget(), 0);
        due("image 0", x.restore(0), Edges.STATE);
        due("image 1", x.restore(1), Edges.STATE);
    }

    @Holds(promise = 1, sentence = "An object is used for at most 512 calls after it has been made")
    static void newTheLastOf512Calls() {
        SnoresGold x = new SnoresGold();
        for (int call = 0; call < 511; call++) {
            x.gold(call % 64, call % 10);
        }
        // The last of these, call 510, put 0 into cell 62; call 509 put 9 into cell 61.
        due("the 512th call", x.gold(61, 0), 9);
    }

    @Holds(promise = 1, sentence = "An object is used for at most 512 calls after it has been made")
    static void newThe512thCallOfTheDearest() {
        SnoresGold x = Edges.menOn(6, 0);
        for (int call = 6; call < 511; call++) {
            x.colds(call % 64, 5, call, 0);
        }
        due("the 512th call", x.colds(0, 10, -1, 0), 18);
    }

    @Holds(promise = 1, sentence = "what later calls answer is free.")
    static void newLaterCallsStillEnd() {
        SnoresGold x = Edges.menOn(6, 0);
        for (int call = 6; call < 2000; call++) {
            x.say('.');
            x.tale(0, 0, true);
            x.seen(0, true);
        }
        due("still within its limits", x.told(0) <= 60 && x.told(2) <= 8 && x.told(3) <= 8 ? 1 : 0, 1);
    }

    @Holds(promise = 1, sentence = "`UNKNOWN = -1, OUTSIDE = -2, STATE = -3, FULL = -4, NO = -5, NONE = -6`")
    static void newConstants() {
        due("UNKNOWN", SnoresGold.UNKNOWN, -1);
        due("OUTSIDE", SnoresGold.OUTSIDE, -2);
        due("STATE", SnoresGold.STATE, -3);
        due("FULL", SnoresGold.FULL, -4);
        due("NO", SnoresGold.NO, -5);
        due("NONE", SnoresGold.NONE, -6);
    }

    @Holds(promise = 1, sentence = "`GONE = -1000000000000000000L`: What is told of fractions that are refused: GONE "
        + "and the refusal, added.")
    static void newConstantGone() {
        due("GONE", SnoresGold.GONE, -1000000000000000000L);
        due("and the refusal", new SnoresGold().odds(64, 0), SnoresGold.GONE + SnoresGold.OUTSIDE);
    }

    @Holds(promise = 1, sentence = "UNKNOWN -1 (there is no such MAN), OUTSIDE -2 (another number is not as told), "
        + "NO -5 (as told), STATE -3 (as told), FULL -4")
    static void newRefusalsByTheirNumbers() {
        SnoresGold x = new SnoresGold();
        due("UNKNOWN", x.leave(0), -1);
        due("OUTSIDE", x.gold(64, 0), -2);
        x.say('A');
        due("NO", x.done(), -5);
        x.say('n');
        due("STATE", x.done(), -3);
        Due.write(x, Edges.nights(60));
        due("FULL", x.say('.'), -4);
    }

    // ---- Promise 2: gold

    @Holds(promise = 2, sentence = CELLS)
    static void goldOfTheFirstAndTheLastCell() {
        SnoresGold x = new SnoresGold();
        due("gold(0, 4)", x.gold(0, 4), 0);
        due("gold(63, 5)", x.gold(63, 5), 0);
        due("gold(0, 0)", x.gold(0, 0), 4);
        due("gold(63, 0)", x.gold(63, 0), 5);
    }

    @Holds(promise = 2, sentence = "OUTSIDE")
    static void goldOfACellOutside() {
        SnoresGold x = new SnoresGold();
        Edges.refused("gold(cell, 1)", Edges.beside(0, 63), OUTSIDE, x, (y, cell) -> y.gold(cell, 1));
    }

    @Holds(promise = 2, sentence = "GOLD in a CELL (0 to 9")
    static void goldFrom0To9() {
        SnoresGold x = new SnoresGold();
        due("gold(7, 9)", x.gold(7, 9), 0);
        due("gold(7, 0)", x.gold(7, 0), 9);
        due("gold(7, 1)", x.gold(7, 1), 0);
        Edges.refused("gold(7, v)", Edges.beside(0, 9), OUTSIDE, x, (y, v) -> y.gold(7, v));
        due("as before", x.gold(7, 2), 1);
    }

    @Holds(promise = 2, sentence = "GOLD in a CELL: which it was")
    static void goldWhichItWasOfThatCellOnly() {
        SnoresGold x = new SnoresGold();
        x.gold(8, 9);
        due("gold(7, 3)", x.gold(7, 3), 0);
        due("gold(9, 3)", x.gold(9, 3), 0);
        due("the same again", x.gold(7, 3), 3);
        due("gold(8, 0)", x.gold(8, 0), 9);
    }

    @Holds(promise = 2, sentence = Edges.NO_CHANGE)
    static void goldRefusedChangesNothing() {
        Edges.changesNothing("gold(64, 9)", OUTSIDE, Edges::some, x -> x.gold(64, 9));
        Edges.changesNothing("gold(-1, 9)", OUTSIDE, Edges::some, x -> x.gold(-1, 9));
        Edges.changesNothing("gold(9, 10)", OUTSIDE, Edges::some, x -> x.gold(9, 10));
        Edges.changesNothing("gold(9, -1)", OUTSIDE, Edges::some, x -> x.gold(9, -1));
    }

    // ---- Promise 3: man

    @Holds(promise = 3, sentence = MEN)
    static void manTheFirstAndTheLast() {
        SnoresGold x = new SnoresGold();
        due("man(5, 1)", x.man(5, 1), 1);
        due("man(0, 1)", x.man(0, 1), 2);
        due("bits", x.told(1), 33);
    }

    @Holds(promise = 3, sentence = "UNKNOWN: the number")
    static void manOfANumberOutside() {
        SnoresGold x = new SnoresGold();
        Edges.refused("man(man, 0)", Edges.beside(0, 5), UNKNOWN, x, (y, man) -> y.man(man, 0));
        due("nobody came", x.told(1), 0);
    }

    @Holds(promise = 3, sentence = "OUTSIDE")
    static void manOnACellOutside() {
        SnoresGold x = new SnoresGold();
        Edges.refused("man(0, cell)", Edges.beside(0, 63), OUTSIDE, x, (y, cell) -> y.man(0, cell));
        due("nobody came", x.told(1), 0);
    }

    @Holds(promise = 3, sentence = CELLS)
    static void manOnTheFirstAndTheLastCell() {
        SnoresGold x = new SnoresGold();
        due("man(0, 0)", x.man(0, 0), 1);
        due("man(1, 63)", x.man(1, 63), 2);
        due("tent of A", x.told(10), 0);
        due("tent of B", x.told(20), 63);
    }

    @Holds(promise = 3, sentence = Edges.ORDER)
    static void manUnknownBeforeOutside() {
        SnoresGold x = new SnoresGold();
        due("man(6, 64)", x.man(6, 64), UNKNOWN);
        due("man(-1, -1)", x.man(-1, -1), UNKNOWN);
    }

    @Holds(promise = 3, sentence = "his TENT on a CELL: how many are")
    static void manSixAreAll() {
        SnoresGold x = new SnoresGold();
        for (int man = 0; man < 6; man++) {
            due("man(" + man + ", 5)", x.man(man, 5), man + 1);
        }
        for (int man = 0; man < 6; man++) {
            due("anew: man(" + man + ", 6)", x.man(man, 6), 6);
        }
        due("all bits", x.told(1), 63);
    }

    @Holds(promise = 3, sentence = "each has a TENT on a CELL (more may have one)")
    static void manAllOnOneCell() {
        SnoresGold x = Edges.menOn(6, 63);
        for (int man = 0; man < 6; man++) {
            due("tent of " + man, x.told(10 * (1 + man)), 63);
        }
    }

    @Holds(promise = 3, sentence = "KNOWS some CELLS (none at first), has a COLD or not, WHISTLES or not "
        + "(neither at first)")
    static void manNewHasNothing() {
        SnoresGold x = Edges.menOn(6, 0);
        for (int man = 0; man < 6; man++) {
            for (int item = 1; item <= 5; item++) {
                due("told(" + (10 * (1 + man) + item) + ")", x.told(10 * (1 + man) + item), 0);
            }
            due("knows 0", x.told(200 * (1 + man)), 0);
            due("knows 63", x.told(200 * (1 + man) + 63), 0);
        }
    }

    @Holds(promise = 3, sentence = "SALT (0 to 999; 0 at first)")
    static void manNewHasNoSalt() {
        SnoresGold x = new SnoresGold();
        x.man(0, 0);
        x.gold(0, 9);
        x.claim(0, 0);
        x.know(0, 0, true);
        due("at first", x.told(12), 0);
        Due.write(x, ".");
        due("a night", x.done(), 1);
        due("after it", x.told(12), 9);
    }

    @Holds(promise = 3, sentence = "(or anew: KNOWS nothing, no COLD, no whistling, SALT 0")
    static void manAnew() {
        SnoresGold x = Edges.some();
        Due.write(x, "A~C*.");
        x.done();
        int[] men = {0, 2};
        for (int man : men) {
            int at = 10 * (1 + man);
            due("he has salt", x.told(at + 2) > 0 ? 1 : 0, 1);
            due("he has a cold", x.told(at + 3), 1);
            due("he whistles", x.told(at + 4), 1);
            due("he knows some", x.told(at + 5) > 0 ? 1 : 0, 1);
            due("anew", x.man(man, 10), 4);
            due("anew: tent", x.told(at), 10);
            for (int item = 1; item <= 5; item++) {
                due("anew: told(" + (at + item) + ")", x.told(at + item), 0);
            }
        }
        due("not the others", x.told(65), 1);
    }

    @Holds(promise = 3, sentence = "what he CLAIMED stays")
    static void manAnewKeepsHisClaims() {
        SnoresGold x = new SnoresGold();
        x.man(3, 9);
        x.claim(0, 3);
        x.claim(63, 3);
        x.man(3, 9);
        due("claimed", x.behind(3, 3), 2);
        due("the first cell", x.whose(0), 3);
        due("the last cell", x.whose(63), 3);
    }

    @Holds(promise = 3, sentence = Edges.NO_CHANGE)
    static void manRefusedChangesNothing() {
        Edges.changesNothing("man(0, 64)", OUTSIDE, Edges::some, x -> x.man(0, 64));
        Edges.changesNothing("man(2, -1)", OUTSIDE, Edges::some, x -> x.man(2, -1));
        Edges.changesNothing("man(1, 64)", OUTSIDE, Edges::some, x -> x.man(1, 64));
        Edges.changesNothing("man(6, 0)", UNKNOWN, Edges::some, x -> x.man(6, 0));
        Edges.changesNothing("man(-1, 0)", UNKNOWN, Edges::some, x -> x.man(-1, 0));
    }

    // ---- Promise 4: leave

    @Holds(promise = 4, sentence = "UNKNOWN: he was not")
    static void leaveWhoNeverWas() {
        SnoresGold x = new SnoresGold();
        x.man(1, 0);
        due("leave(0)", x.leave(0), UNKNOWN);
        due("leave(5)", x.leave(5), UNKNOWN);
        Edges.refused("leave(man)", Edges.beside(0, 5), UNKNOWN, x, (y, man) -> y.leave(man));
        due("as many as before", x.told(1), 2);
    }

    @Holds(promise = 4, sentence = "UNKNOWN: he was not")
    static void leaveTwice() {
        SnoresGold x = new SnoresGold();
        x.man(5, 0);
        due("leave(5)", x.leave(5), 0);
        due("leave(5) again", x.leave(5), UNKNOWN);
    }

    @Holds(promise = 4, sentence = "how many are")
    static void leaveTillNobodyIs() {
        SnoresGold x = Edges.menOn(6, 0);
        for (int man = 5; man >= 0; man--) {
            due("leave(" + man + ")", x.leave(man), man);
        }
        due("bits", x.told(1), 0);
    }

    @Holds(promise = 4, sentence = "A MAN is no more")
    static void leaveAndComeAgain() {
        SnoresGold x = Edges.some();
        x.leave(0);
        due("told of him", x.told(10), OUTSIDE);
        due("behind", x.behind(0, 0), UNKNOWN);
        due("comes again", x.man(0, 1), 4);
        for (int item = 1; item <= 5; item++) {
            due("told(" + (10 + item) + ")", x.told(10 + item), 0);
        }
        due("claimed", x.behind(0, 3), 0);
    }

    @Holds(promise = 4, sentence = "(CELLS that he CLAIMED are nobody's)")
    static void leaveAllCells() {
        SnoresGold x = Edges.menOn(2, 0);
        for (int cell = 0; cell < 64; cell++) {
            x.claim(cell, cell == 32 ? 1 : 0);
        }
        due("leave(0)", x.leave(0), 1);
        for (int cell = 0; cell < 64; cell++) {
            due("whose(" + cell + ")", x.whose(cell), cell == 32 ? 1 : NONE);
        }
    }

    @Holds(promise = 4, sentence = "(CELLS that he CLAIMED are nobody's)")
    static void leaveWithoutAnyCell() {
        SnoresGold x = Edges.menOn(2, 0);
        x.claim(0, 1);
        x.leave(0);
        due("one is claimed", x.claim(1, -1), 1);
        due("by the other", x.whose(0), 1);
    }

    @Holds(promise = 4, sentence = Edges.NO_CHANGE)
    static void leaveRefusedChangesNothing() {
        Edges.changesNothing("leave(1)", UNKNOWN, Edges::some, x -> x.leave(1));
        Edges.changesNothing("leave(6)", UNKNOWN, Edges::some, x -> x.leave(6));
        Edges.changesNothing("leave(-1)", UNKNOWN, Edges::some, x -> x.leave(-1));
    }

    // ---- Promise 5: know

    @Holds(promise = 5, sentence = "UNKNOWN")
    static void knowOfWhoIsNot() {
        SnoresGold x = new SnoresGold();
        x.man(1, 0);
        due("know(0, 0, true)", x.know(0, 0, true), UNKNOWN);
        due("know(5, 0, false)", x.know(5, 0, false), UNKNOWN);
        Edges.refused("know(man, 0, true)", Edges.beside(0, 5), UNKNOWN, x, (y, man) -> y.know(man, 0, true));
        x.leave(1);
        due("who is no more", x.know(1, 0, true), UNKNOWN);
    }

    @Holds(promise = 5, sentence = "OUTSIDE")
    static void knowOfACellOutside() {
        SnoresGold x = new SnoresGold();
        x.man(1, 0);
        Edges.refused("know(1, cell, true)", Edges.beside(0, 63), OUTSIDE, x, (y, cell) -> y.know(1, cell, true));
        due("he knows none", x.told(25), 0);
        Edges.refused("know(1, cell, false)", Edges.beside(0, 63), OUTSIDE, x, (y, cell) -> y.know(1, cell, false));
    }

    @Holds(promise = 5, sentence = Edges.ORDER)
    static void knowUnknownBeforeOutside() {
        SnoresGold x = new SnoresGold();
        due("know(0, 64, true)", x.know(0, 64, true), UNKNOWN);
        due("know(-1, -1, false)", x.know(-1, -1, false), UNKNOWN);
    }

    @Holds(promise = 5, sentence = "how many he KNOWS")
    static void knowAllAndNone() {
        SnoresGold x = Edges.menOn(2, 0);
        due("none, and none the less", x.know(0, 0, false), 0);
        for (int cell = 0; cell < 64; cell++) {
            due("know(0, " + cell + ", true)", x.know(0, cell, true), cell + 1);
        }
        due("all, and none the more", x.know(0, 63, true), 64);
        for (int cell = 0; cell < 64; cell++) {
            due("know(0, " + cell + ", false)", x.know(0, cell, false), 63 - cell);
        }
        due("the other knows none", x.told(25), 0);
    }

    @Holds(promise = 5, sentence = "(is true), or does not")
    static void knowTheFirstAndTheLastCell() {
        SnoresGold x = Edges.menOn(1, 0);
        int[] cells = {0, 31, 32, 63};
        for (int cell : cells) {
            due("know(0, " + cell + ", true)", x.know(0, cell, true), 1);
            for (int other : cells) {
                due("knows " + other, x.told(200 + other), other == cell ? 1 : 0);
            }
            due("know(0, " + cell + ", false)", x.know(0, cell, false), 0);
        }
    }

    @Holds(promise = 5, sentence = Edges.NO_CHANGE)
    static void knowRefusedChangesNothing() {
        Edges.changesNothing("know(0, 64, true)", OUTSIDE, Edges::some, x -> x.know(0, 64, true));
        Edges.changesNothing("know(0, 73, false)", OUTSIDE, Edges::some, x -> x.know(0, 73, false));
        Edges.changesNothing("know(1, 0, true)", UNKNOWN, Edges::some, x -> x.know(1, 0, true));
    }

    // ---- Promise 6: claim

    @Holds(promise = 6, sentence = "or nobody's (-1)")
    static void claimOfNobody() {
        SnoresGold x = Edges.menOn(1, 0);
        due("nobody's as before", x.claim(0, -1), 0);
        due("A's", x.claim(0, 0), 1);
        due("nobody's", x.claim(0, -1), 0);
        due("whose", x.whose(0), NONE);
    }

    @Holds(promise = 6, sentence = "UNKNOWN: the MAN")
    static void claimOfWhoIsNot() {
        SnoresGold x = Edges.menOn(1, 0);
        due("claim(0, 1)", x.claim(0, 1), UNKNOWN);
        due("claim(0, 5)", x.claim(0, 5), UNKNOWN);
        due("claim(0, -2)", x.claim(0, -2), UNKNOWN);
        int[] men = Edges.beside(-1, 5);
        Edges.refused("claim(0, man)", men, UNKNOWN, x, (y, man) -> y.claim(0, man));
        x.leave(0);
        due("who is no more", x.claim(0, 0), UNKNOWN);
    }

    @Holds(promise = 6, sentence = "OUTSIDE")
    static void claimOfACellOutside() {
        SnoresGold x = Edges.menOn(1, 0);
        Edges.refused("claim(cell, 0)", Edges.beside(0, 63), OUTSIDE, x, (y, cell) -> y.claim(cell, 0));
        Edges.refused("claim(cell, -1)", Edges.beside(0, 63), OUTSIDE, x, (y, cell) -> y.claim(cell, -1));
    }

    @Holds(promise = 6, sentence = Edges.ORDER)
    static void claimUnknownBeforeOutside() {
        SnoresGold x = new SnoresGold();
        due("claim(64, 0)", x.claim(64, 0), UNKNOWN);
        due("claim(-1, 6)", x.claim(-1, 6), UNKNOWN);
        due("claim(64, -2)", x.claim(64, -2), UNKNOWN);
    }

    @Holds(promise = 6, sentence = "how many are CLAIMED")
    static void claimAllAndNone() {
        SnoresGold x = Edges.menOn(6, 0);
        for (int cell = 0; cell < 64; cell++) {
            due("claim(" + cell + ")", x.claim(cell, cell % 6), cell + 1);
        }
        due("from another", x.claim(63, 0), 64);
        due("his own again", x.claim(63, 0), 64);
        for (int cell = 0; cell < 64; cell++) {
            due("claim(" + cell + ", -1)", x.claim(cell, -1), 63 - cell);
        }
    }

    @Holds(promise = 6, sentence = Edges.NO_CHANGE)
    static void claimRefusedChangesNothing() {
        Edges.changesNothing("claim(64, 0)", OUTSIDE, Edges::some, x -> x.claim(64, 0));
        Edges.changesNothing("claim(9, 1)", UNKNOWN, Edges::some, x -> x.claim(9, 1));
        Edges.changesNothing("claim(9, -2)", UNKNOWN, Edges::some, x -> x.claim(9, -2));
        Edges.changesNothing("claim(9, 6)", UNKNOWN, Edges::some, x -> x.claim(9, 6));
    }

    // ---- Promise 7: say

    @Holds(promise = 7, sentence = "signs (codes 33 to 126)")
    static void sayTheLeastAndTheGreatestSign() {
        SnoresGold x = new SnoresGold();
        due("say(33)", x.say(33), 1);
        due("say(126)", x.say(126), 2);
        due("signs", x.told(0), 2);
    }

    @Holds(promise = 7, sentence = "OUTSIDE")
    static void sayASignOutside() {
        SnoresGold x = new SnoresGold();
        Edges.refused("say(sign)", Edges.beside(33, 126), OUTSIDE, x, (y, sign) -> y.say(sign));
        due("say(32)", x.say(32), OUTSIDE);
        due("say(127)", x.say(127), OUTSIDE);
        due("signs", x.told(0), 0);
    }

    @Holds(promise = 7, sentence = "A sign more: how many")
    static void sayTheFirst() {
        SnoresGold x = new SnoresGold();
        due("say('.')", x.say('.'), 1);
        due("the same again", x.say('.'), 2);
    }

    @Holds(promise = 7, sentence = "FULL")
    static void sayOneMoreThan60() {
        SnoresGold x = new SnoresGold();
        for (int i = 1; i <= 60; i++) {
            due("sign " + i, x.say('.'), i);
        }
        due("sign 61", x.say('.'), FULL);
        due("sign 61 again", x.say('A'), FULL);
        due("signs", x.told(0), 60);
    }

    @Holds(promise = 7, sentence = "WEEKS are a text on a PAD of up to 60 signs")
    static void sayThe60thSignCounts() {
        SnoresGold x = Edges.menOn(1, 0);
        Due.write(x, Edges.nights(58) + "Ae");
        due("acts", x.done(), 59);
        due("the last act", x.told(10), 1);
    }

    @Holds(promise = 7, sentence = Edges.ORDER)
    static void sayOutsideBeforeFull() {
        SnoresGold x = new SnoresGold();
        Due.write(x, Edges.nights(60));
        due("say(32)", x.say(32), OUTSIDE);
        due("say(127)", x.say(127), OUTSIDE);
        due("say(33)", x.say(33), FULL);
        due("say(126)", x.say(126), FULL);
    }

    @Holds(promise = 7, sentence = "(a sign that is said changes what fault() tells)")
    static void sayChangesTheFault() {
        SnoresGold x = new SnoresGold();
        due("empty", x.fault(), NONE);
        x.say('A');
        due("A", x.fault(), 1);
        x.say('n');
        due("An", x.fault(), NONE);
        x.say('n');
        due("Ann", x.fault(), 2);
    }

    @Holds(promise = 7, sentence = Edges.NO_CHANGE)
    static void sayRefusedChangesNothing() {
        Edges.changesNothing("say(32)", OUTSIDE, () -> Edges.some("Ae."), x -> x.say(32));
        Edges.changesNothing("say(127)", OUTSIDE, () -> Edges.some("Ae"), x -> x.say(127));
        Edges.changesNothing("sign 61", FULL, () -> Edges.some(Edges.nights(60)), x -> x.say('A'));
        Edges.changesNothing("sign 61", FULL, () -> Edges.some(Edges.nights(59) + "A"), x -> x.say('n'));
    }

    // ---- Promise 8: wipe

    @Holds(promise = 8, sentence = "how many there were")
    static void wipeAnEmptyPad() {
        SnoresGold x = new SnoresGold();
        due("wipe()", x.wipe(), 0);
        due("wipe() again", x.wipe(), 0);
    }

    @Holds(promise = 8, sentence = "how many there were")
    static void wipeAFullPad() {
        SnoresGold x = new SnoresGold();
        Due.write(x, Edges.nights(60));
        x.say('.');
        due("wipe()", x.wipe(), 60);
        due("wipe() again", x.wipe(), 0);
    }

    @Holds(promise = 8, sentence = "Signs go")
    static void wipeMakesRoomFor60() {
        SnoresGold x = new SnoresGold();
        Due.write(x, "A" + Edges.nights(59));
        x.wipe();
        due("no fault", x.fault(), NONE);
        for (int i = 1; i <= 60; i++) {
            due("sign " + i, x.say('.'), i);
        }
        due("sign 61", x.say('.'), FULL);
        due("no fault of what is gone", x.fault(), NONE);
    }

    @Holds(promise = 8, sentence = "Signs go")
    static void wipeLeavesAllElse() {
        SnoresGold x = Edges.some("Ae.");
        due("wipe()", x.wipe(), 3);
        Edges.same("wiped", x, Edges.some());
    }

    // ---- Promise 9: fault

    private static void faultIs(String text, int place) {
        SnoresGold x = new SnoresGold();
        Due.sayAll(x, text);
        due("fault of " + text, x.fault(), place);
    }

    @Holds(promise = 9, sentence = NO_FAULT)
    static void faultOfAnEmptyPad() {
        SnoresGold x = new SnoresGold();
        due("new", x.fault(), NONE);
        x.say('!');
        x.wipe();
        due("wiped", x.fault(), NONE);
        x.say('.');
        x.done();
        due("done", x.fault(), NONE);
    }

    @Holds(promise = 9, sentence = "THE FAULT; NONE")
    static void faultOfWholeActs() {
        String[] deeds = {"n", "e", "s", "w", "d", "c", "*", "~"};
        for (String deed : deeds) {
            for (char man = 'A'; man <= 'F'; man++) {
                faultIs(man + deed, NONE);
            }
        }
        faultIs(".", NONE);
        faultIs(Edges.nights(60), NONE);
        faultIs("An".repeat(30), NONE);
    }

    @Holds(promise = 9, sentence = FIRST_WRONG_SIGN)
    static void faultAtTheFirstPlace() {
        String begins = ".ABCDEF";
        for (char sign = 33; sign <= 126; sign++) {
            if (begins.indexOf(sign) < 0) {
                faultIs("" + sign, 0);
                faultIs(sign + "n.", 0);
            }
        }
    }

    @Holds(promise = 9, sentence = FIRST_WRONG_SIGN)
    static void faultAfterAMansLetter() {
        String deeds = "neswdc*~";
        for (char sign = 33; sign <= 126; sign++) {
            if (deeds.indexOf(sign) < 0) {
                faultIs("F" + sign, 1);
                faultIs(".B" + sign + "!", 2);
            }
        }
    }

    @Holds(promise = 9, sentence = FIRST_WRONG_SIGN)
    static void faultAfterAnAct() {
        String begins = ".ABCDEF";
        for (char sign = 33; sign <= 126; sign++) {
            if (begins.indexOf(sign) < 0) {
                faultIs("An" + sign, 2);
                faultIs("." + sign, 1);
            }
        }
    }

    @Holds(promise = 9, sentence = FIRST_WRONG_SIGN)
    static void faultAtTheLastPlace() {
        faultIs(Edges.nights(59) + "G", 59);
        faultIs("An".repeat(29) + "AA", 59);
        faultIs("An".repeat(29) + "An", NONE);
    }

    @Holds(promise = 9, sentence = FIRST_WRONG_SIGN)
    static void faultIsTheFirstOfMore() {
        faultIs("AxGG", 1);
        faultIs("..Gx", 2);
        faultIs("AAA", 1);
    }

    @Holds(promise = 9, sentence = MORE_MUST_COME)
    static void faultWhenMoreMustCome() {
        faultIs("A", 1);
        faultIs(".F", 2);
        faultIs("AnB", 3);
    }

    @Holds(promise = 9, sentence = MORE_MUST_COME)
    static void faultWhenMoreMustComeAndThePadIsFull() {
        faultIs(Edges.nights(59) + "A", 60);
        faultIs(Edges.nights(59) + "An", 60);
    }

    @Holds(promise = 9, sentence = "a MAN's letter and")
    static void faultIsNoneForAMansLetterWhoIsNot() {
        faultIs("Fd", NONE);
        faultIs("AsAsAs", NONE);
    }
}
