/** The edges that the document names for promises 10 to 16, each with the sentence that it holds. */
final class WeeksEdges {
    private static final int UNKNOWN = Edges.UNKNOWN, OUTSIDE = Edges.OUTSIDE, STATE = Edges.STATE, NO = Edges.NO,
        NONE = Edges.NONE;
    private static final String LEAST_REASON = "An ACT can not be for the least of these reasons";
    private static final String NO_MAN = "1 there is no such MAN";
    private static final String OFF_GROUND = "2 he would leave the GROUND";
    private static final String KNOWN = "3 he KNOWS that CELL already (d)";
    private static final String CLAIMED = "4 it is CLAIMED already (by himself, too) (c)";
    private static final String TENTH = "less a tenth of that, cut, which is the old woman's";
    private static final String LESS_BY_DISTANCE = "each less by how far its TENT is (columns and rows together)";
    /** A fault within, a fault at the end; then what can not be, at once and after acts that can. */
    private static final String[] FAULTS = {"Ax", "G", "A", "..A", "AeG."};
    private static final String[] SHAMS = {"As", "Bd", "AeAwAdAd", "..AcAc"};

    private WeeksEdges() {
    }

    private static void due(String call, long got, long want) {
        Edges.due(call, got, want);
    }

    private static void judged(SnoresGold x, String text, int act, int why) {
        Due.write(x, text);
        due("act of " + text, x.judge(0), act);
        due("why of " + text, x.judge(1), why);
    }

    /** Camps of A alone, on the first cell. */
    private static SnoresGold alone() {
        return Edges.menOn(1, 0);
    }

    /** For each of these texts the call is refused so. */
    private static void refusedFor(String[] texts, String call, long refusal, Edges.Call asked) {
        for (String text : texts) {
            SnoresGold x = alone();
            Due.write(x, text);
            due(call + " with " + text, asked.on(x), refusal);
        }
    }

    // ---- Promise 10: judge

    @Holds(promise = 10, sentence = "the ACT (what = 0), why (1), the old woman's (2)")
    static void judgeOfAnEmptyPad() {
        SnoresGold x = new SnoresGold();
        due("the act", x.judge(0), NONE);
        due("why", x.judge(1), NONE);
        due("the woman's", x.judge(2), 0);
    }

    @Holds(promise = 10, sentence = "NONE")
    static void judgeWhenAllCanBe() {
        judged(alone(), "AnAeAsAwAdAcA*A~.", NONE, NONE);
        judged(alone(), Edges.nights(60), NONE, NONE);
    }

    @Holds(promise = 10, sentence = "OUTSIDE")
    static void judgeOfAWhatOutside() {
        Edges.refused("judge(what)", Edges.beside(0, 2), OUTSIDE, alone(), (x, what) -> x.judge(what));
    }

    @Holds(promise = 10, sentence = "NO: there is a FAULT")
    static void judgeWithAFault() {
        for (int what = 0; what <= 2; what++) {
            int asked = what;
            refusedFor(FAULTS, "judge(" + what + ")", NO, x -> x.judge(asked));
        }
    }

    @Holds(promise = 10, sentence = "STATE (2): some ACT can not be")
    static void judgeTheWomansOfASham() {
        refusedFor(SHAMS, "judge(2)", STATE, x -> x.judge(2));
    }

    @Holds(promise = 10, sentence = "STATE (2): some ACT can not be")
    static void judgeTellsTheActAndWhyOfASham() {
        judged(alone(), "As", 0, 2);
        judged(alone(), "Bd", 0, 1);
        judged(alone(), "AeAwAdAd", 3, 3);
        judged(alone(), "..AcAc", 3, 4);
    }

    @Holds(promise = 10, sentence = Edges.ORDER)
    static void judgeOutsideBeforeNoBeforeState() {
        SnoresGold x = alone();
        Due.write(x, "AsA");
        due("judge(3)", x.judge(3), OUTSIDE);
        due("judge(-1)", x.judge(-1), OUTSIDE);
        due("judge(2) of a fault behind a sham", x.judge(2), NO);
        due("judge(0)", x.judge(0), NO);
        due("judge(1)", x.judge(1), NO);
        Due.write(x, "As");
        due("judge(3) of a sham", x.judge(3), OUTSIDE);
        due("judge(2) of a sham", x.judge(2), STATE);
    }

    @Holds(promise = 10, sentence = "the first ACT (from 0 on) that can not be, why")
    static void judgeTheFirstAndTheLastAct() {
        judged(alone(), "Bn", 0, 1);
        judged(alone(), "AnAs".repeat(14) + "A*As", 29, 2);
        judged(alone(), Edges.nights(58) + "As", 58, 2);
    }

    @Holds(promise = 10, sentence = "the first ACT (from 0 on) that can not be")
    static void judgeTheFirstOfMore() {
        judged(alone(), ".AsBnAw", 1, 2);
        judged(alone(), "AdAdBn", 1, 3);
        judged(alone(), "AcAcAs", 1, 4);
    }

    @Holds(promise = 10, sentence = NO_MAN)
    static void judgeNoSuchManForEachDeed() {
        String[] deeds = {"n", "e", "s", "w", "d", "c", "*", "~"};
        for (String deed : deeds) {
            for (int man = 0; man < 6; man++) {
                judged(new SnoresGold(), (char) ('A' + man) + deed, 0, 1);
            }
        }
    }

    @Holds(promise = 10, sentence = NO_MAN)
    static void judgeANightNeedsNoMan() {
        judged(new SnoresGold(), "...", NONE, NONE);
    }

    @Holds(promise = 10, sentence = LEAST_REASON)
    static void judgeTheLeastReasonForWhoIsNoMore() {
        SnoresGold x = Edges.menOn(2, 0);
        x.know(0, 0, true);
        x.claim(0, 1);
        x.leave(0);
        judged(x, "As", 0, 1);
        judged(x, "Aw", 0, 1);
        judged(x, "Ad", 0, 1);
        judged(x, "Ac", 0, 1);
        judged(x, "Bc", 0, 4);
    }

    @Holds(promise = 10, sentence = OFF_GROUND)
    static void judgeStepsAtEachBorder() {
        String[] steps = {"n", "e", "s", "w"};
        for (int cell = 0; cell < 64; cell++) {
            boolean[] leaves = {cell / 8 == 7, cell % 8 == 7, cell / 8 == 0, cell % 8 == 0};
            SnoresGold x = Edges.menOn(1, cell);
            for (int i = 0; i < 4; i++) {
                judged(x, "A" + steps[i], leaves[i] ? 0 : NONE, leaves[i] ? 2 : NONE);
            }
        }
    }

    @Holds(promise = 10, sentence = OFF_GROUND)
    static void judgeTheEighthStepOnARow() {
        judged(alone(), "Ae".repeat(7), NONE, NONE);
        judged(alone(), "Ae".repeat(8), 7, 2);
        judged(alone(), "An".repeat(7), NONE, NONE);
        judged(alone(), "An".repeat(8), 7, 2);
        judged(Edges.menOn(1, 63), "Aw".repeat(8), 7, 2);
        judged(Edges.menOn(1, 63), "As".repeat(8), 7, 2);
    }

    @Holds(promise = 10, sentence = KNOWN)
    static void judgeDigsWhatHeKnows() {
        SnoresGold x = Edges.menOn(2, 9);
        x.know(0, 9, true);
        judged(x, "Ad", 0, 3);
        judged(x, "Bd", NONE, NONE);
        judged(x, "BdBd", 1, 3);
        judged(x, "AeAd", NONE, NONE);
        x.know(0, 9, false);
        judged(x, "Ad", NONE, NONE);
    }

    @Holds(promise = 10, sentence = KNOWN)
    static void judgeDigsTheFirstAndTheLastCell() {
        int[] cells = {0, 63};
        for (int cell : cells) {
            SnoresGold x = Edges.menOn(1, cell);
            judged(x, "Ad", NONE, NONE);
            x.know(0, cell, true);
            judged(x, "Ad", 0, 3);
        }
    }

    @Holds(promise = 10, sentence = KNOWN)
    static void judgeKnowingIsNoMatterElse() {
        SnoresGold x = Edges.menOn(1, 9);
        x.know(0, 9, true);
        x.know(0, 10, true);
        judged(x, "AcA*A~Ae", NONE, NONE);
    }

    @Holds(promise = 10, sentence = CLAIMED)
    static void judgeClaimsHisOwn() {
        SnoresGold x = alone();
        judged(x, "AcAc", 1, 4);
        x.claim(0, 0);
        judged(x, "Ac", 0, 4);
        x.claim(0, -1);
        judged(x, "Ac", NONE, NONE);
    }

    @Holds(promise = 10, sentence = CLAIMED)
    static void judgeClaimsAnothers() {
        SnoresGold x = Edges.menOn(6, 63);
        x.claim(63, 0);
        judged(x, "Fc", 0, 4);
        x.claim(63, -1);
        judged(x, "FcAc", 1, 4);
        x.claim(63, 5);
        judged(x, "Ac", 0, 4);
        judged(x, "AdA*", NONE, NONE);
        x.leave(5);
        judged(x, "Ac", NONE, NONE);
    }

    @Holds(promise = 10, sentence = "what the old woman had in all")
    static void judgeTheWomansOfManyNights() {
        SnoresGold x = Edges.menOn(6, 0);
        for (int cell = 0; cell < 60; cell++) {
            x.gold(cell, 9);
            x.know(cell % 6, cell, true);
            x.claim(cell, cell % 6);
        }
        Due.write(x, Edges.nights(60));
        // Six men, 90 each a night.
        due("sixty nights", x.judge(2), 60 * 6 * 9);
    }

    @Holds(promise = 10, sentence = "what the old woman had in all")
    static void judgeTheWomansOnlyOfThePad() {
        SnoresGold x = alone();
        Edges.enrich(x, 0, 0, 10);
        x.claim(0, 0);
        x.claim(1, 0);
        Due.write(x, "..");
        due("two nights", x.judge(2), 2);
        x.done();
        due("an empty pad", x.judge(2), 0);
        x.year(1, 99, 0);
        Due.write(x, ".");
        due("one night", x.judge(2), 1);
    }

    @Holds(promise = 10, sentence = TENTH)
    static void judgeATenthIsCutForEachMan() {
        int[] golds = {0, 1, 9, 10, 11, 19, 20, 99, 100};
        int[] tenths = {0, 0, 0, 1, 1, 1, 2, 9, 10};
        for (int i = 0; i < golds.length; i++) {
            SnoresGold x = Edges.menOn(2, 0);
            for (int man = 0; man < 2; man++) {
                Edges.enrich(x, man, 20 * man, golds[i]);
                for (int cell = 0; cell < 20; cell++) {
                    x.claim(20 * man + cell, man);
                }
            }
            Due.write(x, ".");
            due("of " + golds[i] + " twice", x.judge(2), 2 * tenths[i]);
            due("salt of A", x.behind(0, 2), golds[i] - tenths[i]);
            due("salt of B", x.behind(1, 2), golds[i] - tenths[i]);
        }
    }

    // ---- Promise 11: behind

    @Holds(promise = 11, sentence = "the CELL (what = 0), SNORE (1), SALT (2), CLAIMED (3)")
    static void behindOfANewMan() {
        SnoresGold x = Edges.menOn(6, 63);
        due("cell", x.behind(5, 0), 63);
        due("snore", x.behind(5, 1), 0);
        due("salt", x.behind(5, 2), 0);
        due("claimed", x.behind(5, 3), 0);
    }

    @Holds(promise = 11, sentence = "OUTSIDE")
    static void behindOfAWhatOutside() {
        Edges.refused("behind(0, what)", Edges.beside(0, 3), OUTSIDE, alone(), (x, what) -> x.behind(0, what));
    }

    @Holds(promise = 11, sentence = "UNKNOWN")
    static void behindOfWhoIsNot() {
        SnoresGold x = alone();
        due("behind(1, 0)", x.behind(1, 0), UNKNOWN);
        due("behind(5, 3)", x.behind(5, 3), UNKNOWN);
        Edges.refused("behind(man, 0)", Edges.beside(0, 5), UNKNOWN, x, (y, man) -> y.behind(man, 0));
        x.leave(0);
        due("who is no more", x.behind(0, 0), UNKNOWN);
    }

    @Holds(promise = 11, sentence = "NO, STATE, as of judge(2)")
    static void behindWithAFault() {
        for (int what = 0; what <= 3; what++) {
            int asked = what;
            refusedFor(FAULTS, "behind(0, " + what + ")", NO, x -> x.behind(0, asked));
        }
    }

    @Holds(promise = 11, sentence = "NO, STATE, as of judge(2)")
    static void behindWithASham() {
        for (int what = 0; what <= 3; what++) {
            int asked = what;
            refusedFor(SHAMS, "behind(0, " + what + ")", STATE, x -> x.behind(0, asked));
        }
    }

    @Holds(promise = 11, sentence = Edges.ORDER)
    static void behindUnknownOutsideNoState() {
        SnoresGold x = alone();
        due("behind(1, 4)", x.behind(1, 4), UNKNOWN);
        Due.write(x, "AsA");
        due("behind(1, 4) with a fault", x.behind(1, 4), UNKNOWN);
        due("behind(1, 0) with a fault", x.behind(1, 0), UNKNOWN);
        due("behind(0, 4) with a fault", x.behind(0, 4), OUTSIDE);
        due("behind(0, 0) with a sham and a fault", x.behind(0, 0), NO);
        Due.write(x, "As");
        due("behind(1, 0) with a sham", x.behind(1, 0), UNKNOWN);
        due("behind(0, -1) with a sham", x.behind(0, -1), OUTSIDE);
    }

    @Holds(promise = 11, sentence = "99 at most")
    static void behindASnoreOf99AtMost() {
        int[] golds = {98, 99, 100, 107, 108, 190};
        int[] snores = {98, 99, 99, 99, 99, 99};
        for (int i = 0; i < golds.length; i++) {
            SnoresGold x = alone();
            Edges.enrich(x, 0, 0, golds[i]);
            due("of " + golds[i], x.behind(0, 1), snores[i]);
            due("told of " + golds[i], x.told(11), snores[i]);
        }
    }

    @Holds(promise = 11, sentence = "99 at most")
    static void behindASnoreWithAColdOf99AtMost() {
        int[] golds = {95, 96, 97};
        int[] snores = {98, 99, 99};
        for (int i = 0; i < golds.length; i++) {
            SnoresGold x = alone();
            Edges.enrich(x, 0, 0, golds[i]);
            Due.write(x, "A*");
            due("of " + golds[i] + " and a cold", x.behind(0, 1), snores[i]);
        }
    }

    @Holds(promise = 11, sentence = "half of it (cut) then, if he WHISTLES")
    static void behindHalfIsTakenBeforeTheMost() {
        int[] golds = {150, 197, 198, 199, 200, 300};
        int[] snores = {75, 98, 99, 99, 99, 99};
        for (int i = 0; i < golds.length; i++) {
            SnoresGold x = alone();
            Edges.enrich(x, 0, 0, golds[i]);
            Due.write(x, "A~");
            due("half of " + golds[i], x.behind(0, 1), snores[i]);
        }
    }

    @Holds(promise = 11, sentence = "half of it (cut) then, if he WHISTLES")
    static void behindHalfIsCut() {
        int[] golds = {0, 1, 2, 3};
        int[] snores = {0, 0, 1, 1};
        for (int i = 0; i < golds.length; i++) {
            SnoresGold x = alone();
            Edges.enrich(x, 0, 0, golds[i]);
            Due.write(x, "A~");
            due("half of " + golds[i], x.behind(0, 1), snores[i]);
        }
    }

    @Holds(promise = 11, sentence = "3 more, if he has a COLD")
    static void behindAColdBeforeTheHalf() {
        int[] golds = {0, 1, 2, 8};
        int[] snores = {1, 2, 2, 5};
        for (int i = 0; i < golds.length; i++) {
            SnoresGold x = alone();
            Edges.enrich(x, 0, 0, golds[i]);
            Due.write(x, "A~A*");
            due("half of " + golds[i] + " and 3", x.behind(0, 1), snores[i]);
        }
    }

    @Holds(promise = 11, sentence = "the GOLD of all CELLS that he KNOWS, together")
    static void behindKnowsNoneAndAll() {
        SnoresGold x = alone();
        for (int cell = 0; cell < 64; cell++) {
            x.gold(cell, cell % 4 == 3 ? 1 : 0);
        }
        due("knows none", x.behind(0, 1), 0);
        for (int cell = 0; cell < 64; cell++) {
            x.know(0, cell, true);
        }
        due("knows all", x.behind(0, 1), 16);
        x.know(0, 63, false);
        due("all but the last", x.behind(0, 1), 15);
        x.gold(0, 1);
        due("the first, too", x.behind(0, 1), 16);
    }

    @Holds(promise = 11, sentence = "* (he has a COLD, or has none any more), ~ (he WHISTLES, or does not any more)")
    static void behindTwiceIsNotAtAll() {
        SnoresGold x = alone();
        Edges.enrich(x, 0, 0, 8);
        String[] texts = {"A*", "A*A*", "A*A*A*", "A~", "A~A~", "A~A~A~"};
        int[] snores = {11, 8, 11, 4, 8, 4};
        for (int i = 0; i < texts.length; i++) {
            Due.write(x, texts[i]);
            due("snore of " + texts[i], x.behind(0, 1), snores[i]);
        }
    }

    @Holds(promise = 11, sentence = "(his TENT goes one CELL: y 1 more, x 1 more, y 1 less, x 1 less)")
    static void behindStepsFromEachCorner() {
        int[] cells = {0, 7, 56, 63};
        String[][] steps = {{"n", "e"}, {"n", "w"}, {"s", "e"}, {"s", "w"}};
        int[][] due = {{8, 1}, {15, 6}, {48, 57}, {55, 62}};
        for (int i = 0; i < cells.length; i++) {
            SnoresGold x = Edges.menOn(1, cells[i]);
            for (int j = 0; j < 2; j++) {
                Due.write(x, "A" + steps[i][j]);
                due(steps[i][j] + " from " + cells[i], x.behind(0, 0), due[i][j]);
            }
        }
    }

    @Holds(promise = 11, sentence = "as much more SALT, 999 at most")
    static void behindSaltOf999AtMost() {
        // 111 cut by 11 is 100 a night; 9 nights are 900, the tenth 1000.
        SnoresGold x = alone();
        Edges.enrich(x, 0, 0, 111);
        for (int cell = 0; cell < 13; cell++) {
            x.claim(cell, 0);
        }
        Due.write(x, Edges.nights(9));
        due("nine nights", x.behind(0, 2), 900);
        Due.write(x, Edges.nights(10));
        due("ten nights", x.behind(0, 2), 999);
        due("the woman's goes on", x.judge(2), 110);
        Due.write(x, Edges.nights(60));
        due("sixty nights", x.behind(0, 2), 999);
        due("the woman's of sixty", x.judge(2), 660);
        x.done();
        Due.write(x, ".");
        due("one more", x.behind(0, 2), 999);
    }

    @Holds(promise = 11, sentence = "as much more SALT, 999 at most")
    static void behindSaltOfJust999() {
        // 123 cut by 12 is 111 a night.
        SnoresGold x = alone();
        Edges.enrich(x, 0, 0, 123);
        for (int cell = 0; cell < 14; cell++) {
            x.claim(cell, 0);
        }
        Due.write(x, Edges.nights(8));
        due("eight nights", x.behind(0, 2), 888);
        Due.write(x, Edges.nights(9));
        due("nine nights", x.behind(0, 2), 999);
        Due.write(x, Edges.nights(10));
        due("ten nights", x.behind(0, 2), 999);
    }

    @Holds(promise = 11, sentence = "or . (a night: each MAN gets the GOLD of all CELLS that he has CLAIMED and KNOWS, "
        + "together")
    static void behindClaimedOrKnownAloneIsNothing() {
        SnoresGold x = Edges.menOn(2, 0);
        x.gold(3, 9);
        x.claim(3, 0);
        x.know(1, 3, true);
        Due.write(x, ".");
        due("claimed, not known", x.behind(0, 2), 0);
        due("known, not claimed", x.behind(1, 2), 0);
        x.know(0, 3, true);
        due("claimed and known", x.behind(0, 2), 9);
        due("known, another's", x.behind(1, 2), 0);
    }

    @Holds(promise = 11, sentence = "how many CELLS he has CLAIMED")
    static void behindClaimedNoneAndAll() {
        SnoresGold x = Edges.menOn(2, 0);
        due("none", x.behind(0, 3), 0);
        for (int cell = 0; cell < 64; cell++) {
            x.claim(cell, 0);
        }
        due("all", x.behind(0, 3), 64);
        due("the other", x.behind(1, 3), 0);
        x.claim(63, 1);
        due("all but the last", x.behind(0, 3), 63);
        due("the last", x.behind(1, 3), 1);
    }

    @Holds(promise = 11, sentence = "of a MAN his CELL, SNORE, SALT, how many CELLS he has CLAIMED")
    static void behindOnlyTells() {
        Edges.changesNothing("behind(0, 0)", 1, () -> Edges.some("Ae."), x -> x.behind(0, 0));
        Edges.changesNothing("behind(0, 3)", 2, () -> Edges.some("Ac."), x -> x.behind(0, 3));
        Edges.changesNothing("behind(0, 0) of a sham", STATE, () -> Edges.some("AeAnAeAs.AsAs"), x -> x.behind(0, 0));
    }

    // ---- Promise 12: heard

    @Holds(promise = 12, sentence = "HEARD")
    static void heardOfNobody() {
        SnoresGold x = new SnoresGold();
        for (int cell = 0; cell < 64; cell++) {
            due("heard(" + cell + ")", x.heard(cell), 0);
        }
    }

    @Holds(promise = 12, sentence = "OUTSIDE")
    static void heardAtACellOutside() {
        Edges.refused("heard(cell)", Edges.beside(0, 63), OUTSIDE, alone(), (x, cell) -> x.heard(cell));
    }

    @Holds(promise = 12, sentence = "NO, STATE, likewise")
    static void heardWithAFaultOrASham() {
        refusedFor(FAULTS, "heard(0)", NO, x -> x.heard(0));
        refusedFor(SHAMS, "heard(0)", STATE, x -> x.heard(0));
        refusedFor(new String[] {"AsA"}, "heard(0)", NO, x -> x.heard(0));
    }

    @Holds(promise = 12, sentence = Edges.ORDER)
    static void heardOutsideFirst() {
        refusedFor(FAULTS, "heard(64)", OUTSIDE, x -> x.heard(64));
        refusedFor(SHAMS, "heard(-1)", OUTSIDE, x -> x.heard(-1));
    }

    @Holds(promise = 12, sentence = "0 at least, together")
    static void heardNeverLessThan0() {
        SnoresGold x = alone();
        Edges.enrich(x, 0, 0, 5);
        int[] cells = {4, 5, 6, 40, 48, 63};
        int[] heard = {1, 0, 0, 0, 0, 0};
        for (int i = 0; i < cells.length; i++) {
            due("heard(" + cells[i] + ")", x.heard(cells[i]), heard[i]);
        }
        x.man(1, 63);
        x.know(1, 0, true);
        due("the far one takes nothing from the near one", x.heard(63), 5);
        due("nor the other way", x.heard(0), 5);
    }

    @Holds(promise = 12, sentence = LESS_BY_DISTANCE)
    static void heardFromCornerToCorner() {
        int[] corners = {0, 7, 56, 63};
        for (int corner : corners) {
            SnoresGold x = Edges.menOn(1, corner);
            Edges.enrich(x, 0, 20, 15);
            due("15 at 14 from " + corner, x.heard(63 - corner), 1);
            due("15 where it is", x.heard(corner), 15);
            x.gold(21, 5);
            due("14 at 14 from " + corner, x.heard(63 - corner), 0);
        }
    }

    @Holds(promise = 12, sentence = "8 times the row y and the column x (0 to 7 both)")
    static void heardRowsDoNotJoin() {
        SnoresGold x = Edges.menOn(1, 7);
        Edges.enrich(x, 0, 20, 10);
        due("the next number is eight off", x.heard(8), 2);
        due("the cell above is one off", x.heard(15), 9);
        due("the first of the row is seven off", x.heard(0), 3);
        due("the top of the column is seven off", x.heard(63), 3);
        due("the other corner is fourteen off", x.heard(56), 0);
    }

    @Holds(promise = 12, sentence = "at a CELL the SNORES of all TENTS")
    static void heardAllSixAtTheMost() {
        SnoresGold x = Edges.menOn(6, 9);
        for (int cell = 20; cell < 31; cell++) {
            x.gold(cell, 9);
            for (int man = 0; man < 6; man++) {
                x.know(man, cell, true);
            }
        }
        due("where all are", x.heard(9), 6 * 99);
        due("one off", x.heard(10), 6 * 98);
        x.leave(0);
        due("five", x.heard(9), 5 * 99);
    }

    @Holds(promise = 12, sentence = "HEARD behind, at a CELL")
    static void heardBehindThePad() {
        SnoresGold x = alone();
        Edges.enrich(x, 0, 0, 7);
        due("now", x.heard(0), 7);
        Due.write(x, "AeA*");
        due("behind", x.heard(0), 9);
        x.wipe();
        due("wiped", x.heard(0), 7);
    }

    // ---- Promise 13: whose

    @Holds(promise = 13, sentence = "by whom a CELL is CLAIMED behind (NONE)")
    static void whoseOfNobody() {
        SnoresGold x = Edges.menOn(1, 0);
        due("first", x.whose(0), NONE);
        due("last", x.whose(63), NONE);
        x.claim(0, 0);
        x.claim(63, 0);
        due("first claimed", x.whose(0), 0);
        due("last claimed", x.whose(63), 0);
        x.claim(0, -1);
        due("first nobody's", x.whose(0), NONE);
        x.leave(0);
        due("of who is no more", x.whose(63), NONE);
    }

    @Holds(promise = 13, sentence = "OUTSIDE")
    static void whoseOfACellOutside() {
        Edges.refused("whose(cell)", Edges.beside(0, 63), OUTSIDE, alone(), (x, cell) -> x.whose(cell));
    }

    @Holds(promise = 13, sentence = "NO, STATE, likewise")
    static void whoseWithAFaultOrASham() {
        refusedFor(FAULTS, "whose(0)", NO, x -> x.whose(0));
        refusedFor(SHAMS, "whose(0)", STATE, x -> x.whose(0));
        refusedFor(new String[] {"AsA"}, "whose(0)", NO, x -> x.whose(0));
    }

    @Holds(promise = 13, sentence = Edges.ORDER)
    static void whoseOutsideFirst() {
        refusedFor(FAULTS, "whose(64)", OUTSIDE, x -> x.whose(64));
        refusedFor(SHAMS, "whose(-1)", OUTSIDE, x -> x.whose(-1));
    }

    @Holds(promise = 13, sentence = "WHOSE; NONE")
    static void whoseBehindThePad() {
        SnoresGold x = Edges.menOn(6, 63);
        Due.write(x, "Fc");
        due("behind", x.whose(63), 5);
        due("now", x.told(163), 9);
        Due.write(x, "Ac");
        due("of A behind", x.whose(63), 0);
        x.wipe();
        due("wiped", x.whose(63), NONE);
    }

    // ---- Promise 14: nothing

    private static void nothingIs(SnoresGold x, String text, int act, int many) {
        Due.write(x, text);
        due("nothing(0) of " + text, x.nothing(0), act);
        due("nothing(1) of " + text, x.nothing(1), many);
    }

    @Holds(promise = 14, sentence = "the ACT (what = 0; NONE), how many (1)")
    static void nothingOfAnEmptyPad() {
        nothingIs(new SnoresGold(), "", NONE, 0);
    }

    @Holds(promise = 14, sentence = "the ACT (what = 0; NONE), how many (1)")
    static void nothingWhenAllHaveGold() {
        SnoresGold x = alone();
        x.gold(0, 1);
        x.gold(1, 9);
        nothingIs(x, "AcAeAc", NONE, 0);
        nothingIs(x, "AeAdA*A~.", NONE, 0);
    }

    @Holds(promise = 14, sentence = "OUTSIDE")
    static void nothingOfAWhatOutside() {
        Edges.refused("nothing(what)", Edges.beside(0, 1), OUTSIDE, alone(), (x, what) -> x.nothing(what));
    }

    @Holds(promise = 14, sentence = "NO, STATE, likewise")
    static void nothingWithAFaultOrASham() {
        for (int what = 0; what <= 1; what++) {
            int asked = what;
            refusedFor(FAULTS, "nothing(" + what + ")", NO, x -> x.nothing(asked));
            refusedFor(SHAMS, "nothing(" + what + ")", STATE, x -> x.nothing(asked));
            refusedFor(new String[] {"AsA"}, "nothing(" + what + ")", NO, x -> x.nothing(asked));
        }
    }

    @Holds(promise = 14, sentence = Edges.ORDER)
    static void nothingOutsideFirst() {
        refusedFor(FAULTS, "nothing(2)", OUTSIDE, x -> x.nothing(2));
        refusedFor(SHAMS, "nothing(-1)", OUTSIDE, x -> x.nothing(-1));
    }

    @Holds(promise = 14, sentence = "the first ACT that claims a CELL without GOLD (NONE)")
    static void nothingTheFirstAndTheLastAct() {
        nothingIs(alone(), "Ac", 0, 1);
        nothingIs(alone(), Edges.nights(58) + "Ac", 58, 1);
        nothingIs(alone(), "A*".repeat(29) + "Ac", 29, 1);
    }

    @Holds(promise = 14, sentence = "how many do")
    static void nothingAllOfMany() {
        nothingIs(alone(), "AcAe".repeat(7) + "Ac", 0, 8);
        SnoresGold x = alone();
        x.gold(0, 1);
        x.gold(7, 1);
        nothingIs(x, "AcAe".repeat(7) + "Ac", 2, 6);
    }

    // ---- Promise 15: done

    @Holds(promise = 15, sentence = "ACTS")
    static void doneWithAnEmptyPad() {
        Edges.changesNothing("done()", 0, Edges::some, x -> x.done());
        due("new", new SnoresGold().done(), 0);
    }

    @Holds(promise = 15, sentence = "ACTS")
    static void doneAsManyAsThePadHolds() {
        SnoresGold x = alone();
        Due.write(x, Edges.nights(60));
        due("nights", x.done(), 60);
        Due.write(x, "A*".repeat(30));
        due("acts of two signs", x.done(), 30);
        Due.write(x, ".A*");
        due("both", x.done(), 2);
    }

    @Holds(promise = 15, sentence = "(the PAD is empty then)")
    static void doneLeavesAnEmptyPad() {
        SnoresGold x = alone();
        Due.write(x, Edges.nights(60));
        x.done();
        due("signs", x.told(0), 0);
        due("no fault", x.fault(), NONE);
        due("again", x.done(), 0);
        due("room", x.say('.'), 1);
    }

    @Holds(promise = 15, sentence = "NO, STATE, likewise")
    static void doneWithAFaultOrASham() {
        refusedFor(FAULTS, "done()", NO, x -> x.done());
        refusedFor(SHAMS, "done()", STATE, x -> x.done());
    }

    @Holds(promise = 15, sentence = Edges.ORDER)
    static void doneNoBeforeState() {
        refusedFor(new String[] {"AsA", "BnBnG", "AdAdAx"}, "done()", NO, x -> x.done());
    }

    @Holds(promise = 15, sentence = Edges.NO_CHANGE)
    static void doneRefusedChangesNothing() {
        Edges.changesNothing("done() of a sham", STATE, () -> Edges.some("AeAdAcA*A~.As"), x -> x.done());
        Edges.changesNothing("done() of a fault", NO, () -> Edges.some("AeAdAcA*A~.A"), x -> x.done());
        Edges.changesNothing("done() of a fault", NO, () -> Edges.some("AeAdG"), x -> x.done());
    }

    @Holds(promise = 15, sentence = "it is so then")
    static void doneIsAsItWasBehind() {
        SnoresGold x = Edges.some("AnAdAcA*A~.");
        int[] behind = new int[4];
        for (int what = 0; what < 4; what++) {
            behind[what] = x.behind(0, what);
        }
        due("acts", x.done(), 6);
        due("cell", x.told(10), behind[0]);
        due("snore", x.told(11), behind[1]);
        due("salt", x.told(12), behind[2]);
        due("claimed", x.behind(0, 3), behind[3]);
        due("tales stay", x.told(2), 2);
        due("sights stay", x.told(3), 2);
    }

    // ---- Promise 16: loudest

    @Holds(promise = 16, sentence = "the CELL (what = 0), how much (1)")
    static void loudestOfNobody() {
        SnoresGold x = new SnoresGold();
        due("cell", x.loudest(0), 0);
        due("how much", x.loudest(1), 0);
        x.man(0, 63);
        due("who makes no sound: cell", x.loudest(0), 0);
        due("who makes no sound: how much", x.loudest(1), 0);
    }

    @Holds(promise = 16, sentence = "(the least such)")
    static void loudestTheLeastOfMany() {
        SnoresGold x = new SnoresGold();
        x.gold(0, 4);
        x.man(0, 63);
        x.know(0, 0, true);
        x.man(1, 56);
        x.know(1, 0, true);
        due("two corners", x.loudest(0), 56);
        x.man(2, 7);
        x.know(2, 0, true);
        due("three corners", x.loudest(0), 7);
        due("how much", x.loudest(1), 4);
    }

    @Holds(promise = 16, sentence = "the CELL at which most is HEARD (the least such); how much")
    static void loudestTheFirstAndTheLastCell() {
        int[] cells = {0, 63};
        for (int cell : cells) {
            SnoresGold x = Edges.menOn(6, cell);
            for (int man = 0; man < 6; man++) {
                Edges.enrich(x, man, 11, 99);
            }
            due("cell", x.loudest(0), cell);
            due("how much", x.loudest(1), 594);
        }
    }

    @Holds(promise = 16, sentence = "LOUDEST now")
    static void loudestIsNotBehind() {
        SnoresGold x = Edges.menOn(1, 9);
        Edges.enrich(x, 0, 0, 9);
        String[] texts = {"AeA*", "A", "G", "Bn", "AsAsAs"};
        for (String text : texts) {
            Due.write(x, text);
            due("cell with " + text, x.loudest(0), 9);
            due("how much with " + text, x.loudest(1), 9);
        }
    }

    @Holds(promise = 16, sentence = "OUTSIDE")
    static void loudestOfAWhatOutside() {
        Edges.refused("loudest(what)", Edges.beside(0, 1), OUTSIDE, alone(), (x, what) -> x.loudest(what));
    }
}
