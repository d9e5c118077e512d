/** Promises 1 to 9: ground and men. */
public final class GroundTest {
    private static final int LEAST = Integer.MIN_VALUE, MOST = Integer.MAX_VALUE;

    private GroundTest() {
    }

    private static void due(String call, long got, long want) {
        Due.due(call, got, want);
    }

    public static void main(String[] args) {
        constants();
        newObject();
        gold();
        man();
        leave();
        know();
        claim();
        say();
        wipe();
        fault();
        refusalsChangeNothing();
        Due.end();
    }

    private static void constants() {
        due("UNKNOWN", SnoresGold.UNKNOWN, -1);
        due("OUTSIDE", SnoresGold.OUTSIDE, -2);
        due("STATE", SnoresGold.STATE, -3);
        due("FULL", SnoresGold.FULL, -4);
        due("NO", SnoresGold.NO, -5);
        due("NONE", SnoresGold.NONE, -6);
        due("GONE", SnoresGold.GONE, -1000000000000000000L);
    }

    private static void newObject() {
        SnoresGold x = new SnoresGold();
        for (int what = 0; what < 4; what++) {
            due("1 told(" + what + ") anew", x.told(what), 0);
        }
        for (int cell = 0; cell < 64; cell++) {
            due("1 told of cell " + cell, x.told(100 + cell), 9);
        }
        for (int man = 0; man < 6; man++) {
            due("1 nobody " + man, x.told(10 * (1 + man)), -2);
            due("1 leave " + man, x.leave(man), -1);
        }
        SnoresGold y = new SnoresGold();
        x.gold(0, 5);
        x.man(0, 0);
        due("1 another object's gold", y.told(100), 9);
        due("1 another object's men", y.told(1), 0);
    }

    private static void gold() {
        SnoresGold x = new SnoresGold();
        due("2 first", x.gold(0, 9), 0);
        due("2 was 9", x.gold(0, 0), 9);
        due("2 was 0", x.gold(0, 3), 0);
        due("2 last cell", x.gold(63, 7), 0);
        due("2 last cell again", x.gold(63, 1), 7);
        due("2 told", x.told(163), 19);
        int[] wrongCells = {-1, 64, LEAST, MOST};
        for (int cell : wrongCells) {
            due("2 gold(" + cell + ", 1)", x.gold(cell, 1), -2);
        }
        int[] wrongGold = {-1, 10, LEAST, MOST};
        for (int v : wrongGold) {
            due("2 gold(0, " + v + ")", x.gold(0, v), -2);
        }
        due("2 as before", x.gold(0, 3), 3);
    }

    private static void man() {
        SnoresGold x = new SnoresGold();
        due("3 first", x.man(5, 63), 1);
        due("3 second", x.man(0, 0), 2);
        due("3 bits", x.told(1), 33);
        due("3 tent", x.told(60), 63);
        x.gold(63, 9);
        x.know(5, 63, true);
        x.claim(63, 5);
        x.claim(1, 5);
        Due.write(x, "F*F~.");
        due("3 done", x.done(), 3);
        due("3 salt", x.told(62), 9);
        due("3 cold", x.told(63), 1);
        due("3 whistles", x.told(64), 1);
        due("3 anew", x.man(5, 8), 2);
        due("3 anew: tent", x.told(60), 8);
        due("3 anew: snore", x.told(61), 0);
        due("3 anew: salt", x.told(62), 0);
        due("3 anew: cold", x.told(63), 0);
        due("3 anew: whistles", x.told(64), 0);
        due("3 anew: knows", x.told(65), 0);
        due("3 anew: what he claimed stays", x.behind(5, 3), 2);
        due("3 two on a cell", x.man(1, 8), 3);
        int[] wrongMen = {-1, 6, LEAST, MOST};
        for (int man : wrongMen) {
            due("3 man(" + man + ", 0)", x.man(man, 0), -1);
            due("3 man(" + man + ", 64)", x.man(man, 64), -1);
        }
        int[] wrongCells = {-1, 64, LEAST, MOST};
        for (int cell : wrongCells) {
            due("3 man(2, " + cell + ")", x.man(2, cell), -2);
        }
        due("3 men are as before", x.told(1), 35);
    }

    private static void leave() {
        SnoresGold x = new SnoresGold();
        x.gold(4, 6);
        x.man(1, 4);
        x.man(2, 4);
        x.know(1, 4, true);
        x.claim(4, 1);
        x.claim(5, 1);
        x.claim(6, 2);
        x.tale(1, 4, true);
        due("4 leaves", x.leave(1), 1);
        due("4 leaves once", x.leave(1), -1);
        due("4 his cells are nobody's", x.told(104), 69);
        due("4 and the other", x.told(105), 9);
        due("4 not another's", x.told(106), 2);
        due("4 not heard", x.heard(4), 0);
        x.claim(0, 2);
        x.claim(63, 2);
        x.man(3, 0);
        x.leave(2);
        due("4 the first cell, too", x.told(100), 9);
        due("4 the last cell, too", x.told(163), 9);
        x.man(2, 4);
        x.leave(3);
        due("4 bits", x.told(1), 4);
        due("4 his tales stay", x.told(2), 1);
        due("4 comes again", x.man(1, 0), 2);
        due("4 knows nothing", x.told(25), 0);
        due("4 has claimed nothing", x.behind(1, 3), 0);
        int[] wrongMen = {-1, 0, 6, LEAST, MOST};
        for (int man : wrongMen) {
            due("4 leave(" + man + ")", x.leave(man), -1);
        }
    }

    private static void know() {
        SnoresGold x = new SnoresGold();
        x.man(3, 0);
        due("5 first", x.know(3, 0, true), 1);
        due("5 again", x.know(3, 0, true), 1);
        due("5 last", x.know(3, 63, true), 2);
        due("5 middle", x.know(3, 32, true), 3);
        due("5 no more", x.know(3, 0, false), 2);
        due("5 no more again", x.know(3, 0, false), 2);
        due("5 knows 63", x.told(800 + 63), 1);
        due("5 knows 0 no more", x.told(800), 0);
        due("5 man 0", x.know(0, 0, true), -1);
        due("5 unknown first", x.know(0, 64, true), -1);
        due("5 man 6", x.know(6, 0, true), -1);
        due("5 man -1", x.know(-1, 0, true), -1);
        due("5 cell 64", x.know(3, 64, true), -2);
        due("5 cell -1", x.know(3, -1, true), -2);
        due("5 cell least", x.know(3, LEAST, false), -2);
        for (int cell = 0; cell < 64; cell++) {
            x.know(3, cell, true);
        }
        due("5 all", x.told(45), 64);
    }

    private static void claim() {
        SnoresGold x = new SnoresGold();
        x.man(0, 0);
        x.man(5, 0);
        due("6 first", x.claim(0, 0), 1);
        due("6 of another", x.claim(63, 5), 2);
        due("6 from another", x.claim(0, 5), 2);
        due("6 whose", x.whose(0), 5);
        due("6 nobody's", x.claim(0, -1), 1);
        due("6 nobody's again", x.claim(0, -1), 1);
        due("6 whose now", x.whose(0), -6);
        due("6 man 1", x.claim(0, 1), -1);
        due("6 man -2", x.claim(0, -2), -1);
        due("6 man 6", x.claim(0, 6), -1);
        due("6 unknown first", x.claim(64, 1), -1);
        due("6 cell 64", x.claim(64, 0), -2);
        due("6 cell -1", x.claim(-1, -1), -2);
        due("6 as before", x.told(163), 5);
    }

    private static void say() {
        SnoresGold x = new SnoresGold();
        int[] wrongSigns = {32, 127, 0, -1, LEAST, MOST};
        for (int sign : wrongSigns) {
            due("7 say(" + sign + ")", x.say(sign), -2);
        }
        due("7 least sign", x.say(33), 1);
        due("7 greatest sign", x.say(126), 2);
        for (int i = 3; i <= 60; i++) {
            due("7 sign " + i, x.say('.'), i);
        }
        due("7 full", x.say('.'), -4);
        due("7 outside first", x.say(32), -2);
        due("7 signs", x.told(0), 60);
    }

    private static void wipe() {
        SnoresGold x = new SnoresGold();
        due("8 empty", x.wipe(), 0);
        Due.sayAll(x, "ABC");
        due("8 three", x.wipe(), 3);
        due("8 gone", x.told(0), 0);
        for (int i = 0; i < 60; i++) {
            x.say('.');
        }
        due("8 sixty", x.wipe(), 60);
        due("8 room again", x.say('.'), 1);
    }

    private static void fault() {
        SnoresGold x = new SnoresGold();
        due("9 empty", x.fault(), -6);
        String[] texts = {".", "..", "An", "Ae.", "FsFw", "Ad.Bc.C*D~", "A", ".A", "AnB", "G", "a", "An@", "AA", "A.",
            "AG", "..x", ".n", "An..Fx", "!", "A!", "AnG.", "B*n", "AN", "~A", "F~", "E~*"};
        int[] places = {-6, -6, -6, -6, -6, -6, 1, 2, 3, 0, 0, 2, 1, 1,
            1, 2, 1, 5, 0, 1, 2, 2, 1, 0, -6, 2};
        for (int i = 0; i < texts.length; i++) {
            Due.write(x, texts[i]);
            due("9 " + texts[i], x.fault(), places[i]);
        }
        x.wipe();
        for (int i = 0; i < 59; i++) {
            x.say('.');
        }
        x.say('A');
        due("9 more must come, and there is no room", x.fault(), 60);
    }

    private static void refusalsChangeNothing() {
        SnoresGold x = new SnoresGold();
        x.man(1, 9);
        x.gold(9, 4);
        x.know(1, 9, true);
        x.claim(9, 1);
        x.gold(9, 10);
        x.man(1, 64);
        x.leave(2);
        x.know(1, 64, false);
        x.claim(9, 2);
        x.say(200);
        due("refused: gold and claim", x.told(109), 41);
        due("refused: tent", x.told(20), 9);
        due("refused: knows", x.told(25), 1);
        due("refused: pad", x.told(0), 0);
    }
}
