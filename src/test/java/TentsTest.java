/** Promises 17 to 22: where to sleep, liars, partners. */
public final class TentsTest {
    private TentsTest() {
    }

    private static void due(String call, long got, long want) {
        Due.due(call, got, want);
    }

    public static void main(String[] args) {
        sleep();
        hide();
        tale();
        hush();
        liars();
        leaves();
        leavesWrong();
        Due.end();
    }

    private static void sleep() {
        SnoresGold x = new SnoresGold();
        x.man(0, 9);
        due("17 alone, k 0", x.sleep(0, 0, 0), 9);
        due("17 alone, k 1", x.sleep(0, 1, 0), 1);
        due("17 alone, k 2", x.sleep(0, 2, 0), 0);
        due("17 alone: how much", x.sleep(0, 2, 1), 0);
        x.gold(9, 6);
        x.know(0, 9, true);
        due("17 his own is no matter", x.sleep(0, 0, 1), 0);
        x.man(1, 0);
        x.know(1, 9, true);
        due("17 the other's", x.sleep(0, 0, 1), 4);
        due("17 one step: the least cell", x.sleep(0, 1, 0), 10);
        due("17 one step", x.sleep(0, 1, 1), 3);
        due("17 four steps", x.sleep(0, 4, 0), 13);
        due("17 four steps: how much", x.sleep(0, 4, 1), 0);
        due("17 all steps: the least cell of none", x.sleep(0, 14, 0), 6);
        x.man(0, 63);
        due("17 13 steps reach not that corner", x.sleep(0, 13, 0), 6);
        Due.write(x, "B*");
        due("17 now, not behind", x.sleep(1, 0, 1), 0);
        int[] wrongSteps = {-1, 15, Integer.MIN_VALUE, Integer.MAX_VALUE};
        for (int k : wrongSteps) {
            due("17 k " + k, x.sleep(0, k, 0), -2);
        }
        due("17 what 2", x.sleep(0, 1, 2), -2);
        due("17 what -1", x.sleep(0, 1, -1), -2);
        due("17 man 2", x.sleep(2, 1, 0), -1);
        due("17 man 6", x.sleep(6, 15, 2), -1);
        due("17 man -1", x.sleep(-1, 1, 0), -1);
    }

    private static void hide() {
        SnoresGold x = new SnoresGold();
        x.man(0, 9);
        x.gold(9, 6);
        x.know(0, 9, true);
        due("18 without others", x.hide(0, 2, 0), 0);
        due("18 without others, one step", x.hide(0, 1, 0), 1);
        due("18 without others: how much", x.hide(0, 1, 1), 0);
        x.man(1, 9);
        x.man(2, 10);
        due("18 where he is", x.hide(0, 0, 0), 9);
        due("18 by two tents", x.hide(0, 0, 1), 11);
        due("18 one step", x.hide(0, 1, 0), 1);
        due("18 one step: how much", x.hide(0, 1, 1), 9);
        due("18 two steps", x.hide(0, 2, 0), 0);
        due("18 two steps: how much", x.hide(0, 2, 1), 7);
        due("18 all steps: not heard", x.hide(0, 14, 1), 0);
        due("18 all steps: the least such cell", x.hide(0, 14, 0), 7);
        due("18 who makes no sound", x.hide(1, 14, 0), 0);
        x.gold(8, 5);
        x.know(1, 8, true);
        due("18 heard by the least man, too", x.hide(1, 0, 1), 5 + 4);
        x.know(1, 8, false);
        due("18 the others' own are no matter", x.hide(1, 14, 1), 0);
        int[] wrongSteps = {-1, 15, Integer.MIN_VALUE, Integer.MAX_VALUE};
        for (int k : wrongSteps) {
            due("18 k " + k, x.hide(0, k, 0), -2);
        }
        due("18 what 2", x.hide(0, 1, 2), -2);
        due("18 what -1", x.hide(0, 1, -1), -2);
        due("18 man 3", x.hide(3, 1, 0), -1);
        due("18 man 6", x.hide(6, 15, 2), -1);
        due("18 man -1", x.hide(-1, 1, 0), -1);
    }

    private static void tale() {
        SnoresGold x = new SnoresGold();
        x.man(0, 0);
        due("19 man 1", x.tale(1, 0, true), -1);
        due("19 man 6", x.tale(6, 64, true), -1);
        due("19 man -1", x.tale(-1, 0, true), -1);
        due("19 cell 64", x.tale(0, 64, true), -2);
        due("19 cell -1", x.tale(0, -1, true), -2);
        for (int i = 1; i <= 8; i++) {
            due("19 tale " + i, x.tale(0, 0, true), i);
        }
        due("19 full", x.tale(0, 0, true), -4);
        due("19 outside first", x.tale(0, 64, true), -2);
        due("19 unknown first", x.tale(1, 64, true), -1);
        due("19 told", x.told(2), 8);
    }

    private static void hush() {
        SnoresGold x = new SnoresGold();
        due("20 none", x.hush(), 0);
        x.man(0, 0);
        x.tale(0, 0, true);
        x.tale(0, 0, false);
        due("20 two", x.hush(), 2);
        due("20 gone", x.told(2), 0);
        due("20 no liars any more", x.liars(0), 0);
        x.tale(0, 0, false);
        x.man(1, 0);
        x.tale(1, 0, false);
        due("20 what was said before is no more", x.liars(0), 0);
    }

    private static void liars() {
        SnoresGold x = new SnoresGold();
        for (int man = 0; man < 6; man++) {
            x.man(man, 0);
        }
        due("21 no tales", x.liars(0), 0);
        due("21 no tales: who", x.liars(1), 0);
        x.gold(1, 9);
        x.tale(5, 1, false);
        due("21 whatever it really is", x.liars(0), 0);
        x.tale(4, 1, true);
        due("21 one of two", x.liars(0), 1);
        due("21 the least", x.liars(1), 16);
        x.tale(4, 2, true);
        x.tale(3, 2, true);
        x.tale(2, 2, true);
        due("21 still one", x.liars(1), 32);
        x.tale(3, 1, false);
        due("21 all of one side lie, or two against", x.liars(0), -6);
        x.hush();
        x.tale(0, 7, true);
        x.tale(1, 7, true);
        x.tale(2, 7, false);
        x.tale(3, 7, false);
        due("21 two of four", x.liars(0), 2);
        due("21 two of four: who", x.liars(1), 3);
        x.tale(5, 7, false);
        x.tale(4, 6, true);
        due("21 fewer against more", x.liars(1), 3);
        x.tale(0, 8, true);
        x.tale(1, 8, true);
        due("21 the same of another cell", x.liars(1), 3);
        x.leave(0);
        x.leave(1);
        due("21 of those who are no more", x.liars(1), 3);
        x.hush();
        x.tale(2, 3, true);
        x.tale(2, 3, false);
        due("21 against himself", x.liars(0), -6);
        due("21 against himself: who", x.liars(1), -6);
        due("21 what 2", x.liars(2), -2);
        due("21 what -1", x.liars(-1), -2);
    }

    private static void leaves() {
        SnoresGold x = new SnoresGold();
        for (int man = 0; man < 4; man++) {
            x.man(man, 0);
        }
        x.gold(0, 4);
        x.gold(1, 5);
        x.gold(2, 9);
        x.know(0, 0, true);
        x.know(1, 1, true);
        x.know(2, 2, true);
        due("22 all alone", x.leaves(12345), -6);
        due("22 the richer would be alone", x.leaves(102345), 11);
        // 0 and 2 have 6.5 each, 1 has 5; 1 and 2 would have 7 each
        due("22 0 with 2: 1 and 2 would have more", x.leaves(210345), 12);
        due("22 0 with 3: 0 would be alone", x.leaves(312045), 0);
        x.know(3, 2, true);
        // 2 and 3 have 4.5 each, 0 has 4; 0 and 2 would have 6.5 each
        due("22 2 with 3: 0 and 2 would have more", x.leaves(13245), 2);
        x.man(3, 0);
        x.know(0, 2, true);
        x.know(1, 2, true);
        x.man(2, 0);
        x.man(3, 0);
        // 0: 13, 1: 14, together 18, each 9; alone each has more
        due("22 alone is more for both", x.leaves(102345), 0);
        x.know(2, 0, true);
        x.know(3, 1, true);
        // 2: 4, 3: 5, with each other 9: 4 and a half each
        due("22 half is not cut: 5 leaves 4.5", x.leaves(13245), 33);
        x.gold(0, 5);
        due("22 as much is not more", x.leaves(13245), -6);
        x.gold(0, 0);
        x.gold(1, 1);
        x.gold(2, 2);
        x.man(0, 0);
        x.man(1, 0);
        x.man(2, 0);
        x.man(3, 0);
        x.know(0, 0, true);
        x.know(1, 1, true);
        x.know(2, 2, true);
        due("22 no such twos", x.leaves(131245), -2);
        pairLeaves();
        asMuchIsNotMore();
        oneGainsAndOneDoesNot();
    }

    private static void asMuchIsNotMore() {
        SnoresGold x = new SnoresGold();
        x.man(0, 0);
        x.man(1, 0);
        x.man(2, 0);
        x.gold(0, 8);
        x.gold(1, 4);
        x.gold(2, 4);
        x.know(0, 0, true);
        x.know(1, 1, true);
        x.know(1, 2, true);
        due("22 both as much as alone", x.leaves(12345), -6);
        // 1 and 2 would each have 8 of 16, as 1 has alone
        for (int cell = 3; cell < 5; cell++) {
            x.gold(cell, 4);
            x.know(2, cell, true);
        }
        due("22 all as much as alone", x.leaves(12345), -6);
        // together they lack nothing, and 2 alone has as much
        due("22 as much alone as with him", x.leaves(21345), -6);
        x.gold(0, 6);
        // 0 has 7 with 1, alone 6; 1 has 7, alone 8, with 2 as much as alone
        due("22 1 alone, and 0 with 2", x.leaves(102345), 11);
        x.know(0, 1, true);
        x.know(0, 2, true);
        // 0 knows 14, 1 knows 8 of these: 7 each
        due("22 0 alone is the least", x.leaves(102345), 0);
        x.man(1, 0);
        x.man(0, 0);
        x.gold(0, 8);
        x.know(0, 0, true);
        // 0 and 2 each have 8 now, and would have 8 together; 1 with either has more, but not the other
        due("22 the poor gain, the rich do not", x.leaves(12345), -6);
    }

    private static void pairLeaves() {
        SnoresGold x = new SnoresGold();
        for (int man = 0; man < 6; man++) {
            x.man(man, 0);
        }
        // 0 with 1, 2 with 3; 1 and 2 know the same 9: 1 and 2 would not gain; 0 and 3 know 8 each, apart
        for (int cell = 0; cell < 4; cell++) {
            x.gold(cell, 8);
        }
        x.know(0, 0, true);
        x.know(1, 0, true);
        x.know(2, 1, true);
        x.know(3, 1, true);
        due("22 0 would be alone", x.leaves(103245), 0);
        x.know(0, 2, true);
        x.know(1, 3, true);
        // 0 and 1: 24, each 12, alone 16
        due("22 still", x.leaves(103245), 0);
        due("22 0 alone, 1 with 2, all well", x.leaves(21345), 11);
        // 4 and 5 have nothing: who is with one of them goes alone
        due("22 4 with 0", x.leaves(412305), 0);
        due("22 5 with 3", x.leaves(12543), 33);
        due("22 none can gain", x.leaves(13245), 22);
    }

    private static void oneGainsAndOneDoesNot() {
        SnoresGold x = new SnoresGold();
        x.man(0, 0);
        x.man(1, 0);
        x.man(2, 0);
        x.gold(0, 8);
        x.gold(1, 8);
        x.know(0, 0, true);
        x.know(1, 1, true);
        // with 1, 0 would have 8, as much as now; 1 would have more than the 4 with 2
        due("22 as much is not more for the lesser", x.leaves(21345), 11);
        x.gold(0, 4);
        x.gold(2, 4);
        x.gold(3, 4);
        x.know(1, 2, true);
        x.know(2, 3, true);
        // with 0, 1 would have 8, as much as with 2 now; 0 would have more than 4
        due("22 as much is not more for the greater", x.leaves(21345), 11);
        x.gold(0, 5);
        due("22 a half more is more", x.leaves(21345), 1);
    }

    private static void leavesWrong() {
        SnoresGold x = new SnoresGold();
        x.man(0, 0);
        x.man(1, 0);
        x.man(2, 0);
        int[] wrong = {-1, 1000000, Integer.MIN_VALUE, Integer.MAX_VALUE, 0, 111111, 120345, 112345, 12346, 12349,
            912345, 312045, 12435, 12354, 543210, 999999, 12340, -12345};
        for (int twos : wrong) {
            due("22 leaves(" + twos + ")", x.leaves(twos), -2);
        }
        due("22 two who are there", x.leaves(102345), -6);
        due("22 two others who are there", x.leaves(21345), -6);
    }
}
