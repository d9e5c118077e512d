/** Promises 10 to 16: weeks. */
public final class WeeksTest {
    private WeeksTest() {
    }

    private static void due(String call, long got, long want) {
        Due.due(call, got, want);
    }

    public static void main(String[] args) {
        judge();
        judgeWoman();
        behind();
        snore();
        salt();
        heard();
        whose();
        nothing();
        done();
        refusals();
        loudest();
        Due.end();
    }

    private static void judged(SnoresGold x, String text, int act, int why) {
        Due.write(x, text);
        due("10 " + text + ": the act", x.judge(0), act);
        due("10 " + text + ": why", x.judge(1), why);
        due("10 " + text + ": the woman's", x.judge(2), act == -6 ? 0 : -3);
    }

    private static void judge() {
        SnoresGold x = new SnoresGold();
        x.man(0, 0);
        x.man(1, 63);
        x.man(2, 9);
        judged(x, "", -6, -6);
        judged(x, "...", -6, -6);
        judged(x, "Dn", 0, 1);
        judged(x, "Dd", 0, 1);
        judged(x, "Dc", 0, 1);
        judged(x, "D*", 0, 1);
        judged(x, "D~", 0, 1);
        judged(x, ".As", 1, 2);
        judged(x, "Aw", 0, 2);
        judged(x, "Bn", 0, 2);
        judged(x, "..Be", 2, 2);
        judged(x, "AnAe", -6, -6);
        judged(x, "BsBw", -6, -6);
        judged(x, "AnAsAs", 2, 2);
        judged(x, "AeAeAeAeAeAeAeAe", 7, 2);
        judged(x, "AnAnAnAnAnAnAnAn", 7, 2);
        judged(x, "AdAd", 1, 3);
        judged(x, "AdBdCdAeAdAwAd", 6, 3);
        judged(x, "AcAc", 1, 4);
        judged(x, "AnAeAcCc", 3, 4);
        judged(x, "AcAcDn", 1, 4);
        judged(x, "A*A*A~A~", -6, -6);
        x.know(0, 0, true);
        x.claim(0, 2);
        judged(x, "Ad", 0, 3);
        judged(x, "Ac", 0, 4);
        due("10 what -1", x.judge(-1), -2);
        due("10 what 3", x.judge(3), -2);
        Due.write(x, "AcA");
        due("10 a fault: act", x.judge(0), -5);
        due("10 a fault: why", x.judge(1), -5);
        due("10 a fault: woman's", x.judge(2), -5);
        due("10 outside before a fault", x.judge(3), -2);
    }

    private static void judgeWoman() {
        SnoresGold x = new SnoresGold();
        x.man(0, 0);
        x.man(1, 0);
        for (int cell = 0; cell < 4; cell++) {
            x.gold(cell, 9);
            x.know(0, cell, true);
            x.know(1, cell, true);
        }
        x.claim(0, 0);
        x.claim(1, 0);
        x.claim(2, 0);
        x.claim(3, 1);
        x.gold(3, 5);
        Due.write(x, ".");
        due("10 a tenth of 27, cut, and of 5", x.judge(2), 2);
        Due.write(x, "...");
        due("10 three nights", x.judge(2), 6);
        x.done();
        due("10 only of what is on the pad", x.judge(2), 0);
        x.gold(3, 9);
        x.claim(2, 1);
        Due.write(x, ".");
        due("10 of 18 and of 18", x.judge(2), 2);
        x.claim(0, -1);
        Due.write(x, ".Ac.");
        due("10 of 9 and 18, then of 18 and 18", x.judge(2), 3);
    }

    private static void behind() {
        SnoresGold x = new SnoresGold();
        x.gold(8, 7);
        x.gold(9, 6);
        x.man(4, 0);
        Due.write(x, "EnEdEcEeEdEc.");
        due("11 cell", x.behind(4, 0), 9);
        due("11 snore", x.behind(4, 1), 13);
        due("11 salt", x.behind(4, 2), 12);
        due("11 claimed", x.behind(4, 3), 2);
        due("11 not done in fact: cell", x.told(50), 0);
        due("11 not done in fact: snore", x.told(51), 0);
        due("11 not done in fact: salt", x.told(52), 0);
        due("11 not done in fact: claimed", x.told(108), 79);
        due("11 the pad stays", x.told(0), 13);
        Due.write(x, "EnEeEsEw");
        due("11 round", x.behind(4, 0), 0);
        due("11 unknown", x.behind(0, 0), -1);
        due("11 unknown first", x.behind(0, 9), -1);
        due("11 man 6", x.behind(6, 0), -1);
        due("11 man -1", x.behind(-1, 0), -1);
        due("11 what 4", x.behind(4, 4), -2);
        due("11 what -1", x.behind(4, -1), -2);
    }

    private static void snoreIs(SnoresGold x, String text, int snore) {
        Due.write(x, text);
        due("11 snore of " + text, x.behind(0, 1), snore);
    }

    private static void snore() {
        SnoresGold x = new SnoresGold();
        x.man(0, 0);
        snoreIs(x, "", 0);
        snoreIs(x, "A*", 3);
        snoreIs(x, "A~", 0);
        snoreIs(x, "A*A~", 1);
        snoreIs(x, "A*A*", 0);
        x.gold(5, 8);
        x.know(0, 5, true);
        snoreIs(x, "", 8);
        snoreIs(x, "A~", 4);
        snoreIs(x, "A~A*", 5);
        snoreIs(x, "A~A~A*", 11);
        for (int cell = 10; cell < 20; cell++) {
            x.gold(cell, 9);
            x.know(0, cell, true);
        }
        snoreIs(x, "", 98);
        snoreIs(x, "A*", 99);
        snoreIs(x, "A*A~", 50);
        for (int cell = 20; cell < 40; cell++) {
            x.gold(cell, 9);
            x.know(0, cell, true);
        }
        snoreIs(x, "", 99);
        snoreIs(x, "A~", 99);
    }

    private static void salt() {
        SnoresGold x = new SnoresGold();
        x.man(0, 0);
        x.man(1, 0);
        x.gold(1, 9);
        x.gold(2, 9);
        x.claim(1, 0);
        x.know(0, 2, true);
        Due.write(x, ".");
        due("11 claimed, not known; known, not claimed", x.behind(0, 2), 0);
        x.claim(2, 1);
        x.know(1, 1, true);
        due("11 the other's", x.behind(1, 2), 0);
        x.know(1, 2, true);
        due("11 claimed and known", x.behind(1, 2), 9);
        for (int cell = 0; cell < 20; cell++) {
            x.gold(cell, 9);
            x.know(0, cell, true);
            x.claim(cell, 0);
        }
        due("11 180 less 18", x.behind(0, 2), 162);
        Due.write(x, "......");
        due("11 six nights", x.behind(0, 2), 972);
        Due.write(x, ".......");
        due("11 no more than 999", x.behind(0, 2), 999);
        due("11 the woman's has no end", x.judge(2), 126);
        x.done();
        due("11 told", x.told(12), 999);
    }

    private static void heard() {
        SnoresGold x = new SnoresGold();
        x.gold(0, 9);
        x.man(0, 0);
        x.man(1, 2);
        x.know(0, 0, true);
        Due.write(x, "Bn");
        due("12 at his tent", x.heard(0), 9);
        due("12 eight off", x.heard(36), 1);
        due("12 nine off", x.heard(37), 0);
        due("12 never below 0", x.heard(63), 0);
        Due.write(x, "B*Be");
        due("12 both, behind", x.heard(3), 9);
        Due.write(x, "AeB*");
        due("12 both elsewhere", x.heard(2), 11);
        due("12 the nearer side", x.heard(0), 9);
        due("12 cell 64", x.heard(64), -2);
        due("12 cell -1", x.heard(-1), -2);
        x.leave(0);
        x.wipe();
        due("12 who is no more", x.heard(0), 0);
    }

    private static void whose() {
        SnoresGold x = new SnoresGold();
        x.man(2, 62);
        due("13 nobody's", x.whose(62), -6);
        Due.write(x, "CcCeCc");
        due("13 behind", x.whose(62), 2);
        due("13 behind, the last", x.whose(63), 2);
        due("13 now", x.told(162), 9);
        due("13 cell 64", x.whose(64), -2);
        due("13 cell -1", x.whose(-1), -2);
    }

    private static void nothing() {
        SnoresGold x = new SnoresGold();
        x.man(0, 0);
        x.gold(1, 1);
        due("14 empty", x.nothing(0), -6);
        due("14 empty: how many", x.nothing(1), 0);
        Due.write(x, ".AeAcAeAcAeAc");
        due("14 the act", x.nothing(0), 4);
        due("14 how many", x.nothing(1), 2);
        Due.write(x, "Ac.");
        due("14 act 0", x.nothing(0), 0);
        due("14 one", x.nothing(1), 1);
        Due.write(x, "AeAcAd");
        due("14 none", x.nothing(0), -6);
        due("14 none: how many", x.nothing(1), 0);
        due("14 what 2", x.nothing(2), -2);
        due("14 what -1", x.nothing(-1), -2);
        x.wipe();
        x.claim(5, 0);
        due("14 no act, no claim", x.nothing(1), 0);
    }

    private static void done() {
        SnoresGold x = new SnoresGold();
        due("15 nothing", x.done(), 0);
        x.man(0, 0);
        x.gold(8, 5);
        Due.write(x, "AnAdAc.A*A~");
        due("15 acts", x.done(), 6);
        due("15 the pad is empty", x.told(0), 0);
        due("15 cell", x.told(10), 8);
        due("15 snore", x.told(11), 4);
        due("15 salt", x.told(12), 5);
        due("15 cold", x.told(13), 1);
        due("15 whistles", x.told(14), 1);
        due("15 knows", x.told(15), 1);
        due("15 claimed", x.told(108), 50);
        Due.write(x, "A*A~");
        due("15 on", x.done(), 2);
        due("15 no cold any more", x.told(13), 0);
        due("15 no whistling any more", x.told(14), 0);
    }

    private static void refusals() {
        SnoresGold x = new SnoresGold();
        x.man(0, 0);
        String[] texts = {"AeA", "AeAw.AdAcAc"};
        int[] due = {-5, -3};
        for (int i = 0; i < texts.length; i++) {
            Due.write(x, texts[i]);
            due("11 refused " + texts[i], x.behind(0, 0), due[i]);
            due("12 refused " + texts[i], x.heard(0), due[i]);
            due("13 refused " + texts[i], x.whose(0), due[i]);
            due("14 refused " + texts[i], x.nothing(0), due[i]);
            due("15 refused " + texts[i], x.done(), due[i]);
            due("11 outside first", x.behind(0, 4), -2);
            due("11 unknown first", x.behind(1, 0), -1);
            due("12 outside first", x.heard(64), -2);
            due("13 outside first", x.whose(64), -2);
            due("14 outside first", x.nothing(2), -2);
            due("15 the pad stays", x.told(0), texts[i].length());
            due("15 nothing is done", x.told(10) + x.told(15) + x.told(100), 9);
        }
    }

    private static void loudest() {
        SnoresGold x = new SnoresGold();
        due("16 nobody: cell", x.loudest(0), 0);
        due("16 nobody: how much", x.loudest(1), 0);
        x.man(3, 63);
        x.gold(0, 4);
        x.know(3, 0, true);
        due("16 at his tent", x.loudest(0), 63);
        due("16 how much", x.loudest(1), 4);
        x.man(4, 61);
        x.know(4, 0, true);
        due("16 the least of three", x.loudest(0), 61);
        due("16 both", x.loudest(1), 6);
        Due.write(x, "D*D*D*");
        due("16 now, not behind", x.loudest(1), 6);
        due("16 a fault is no matter", x.say('!'), 7);
        due("16 now", x.loudest(0), 61);
        due("16 what 2", x.loudest(2), -2);
        due("16 what -1", x.loudest(-1), -2);
    }
}
