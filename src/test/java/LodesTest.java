/** Promises 23 to 33: lodes, claims by turns, colds, years, images. */
public final class LodesTest {
    private static final long GONE_OUTSIDE = -1000000000000000002L;

    private LodesTest() {
    }

    private static void due(String call, long got, long want) {
        Due.due(call, got, want);
    }

    public static void main(String[] args) {
        seen();
        forget();
        lodes();
        lodesThroughEachCell();
        odds();
        next();
        turns();
        colds();
        coldsOfGold();
        coldsOutside();
        year();
        yearOfActs();
        image();
        restore();
        told();
        Due.end();
    }

    private static void seen() {
        SnoresGold x = new SnoresGold();
        due("23 cell 64", x.seen(64, true), -2);
        due("23 cell -1", x.seen(-1, true), -2);
        for (int i = 1; i <= 8; i++) {
            due("23 sight " + i, x.seen(i, false), i);
        }
        due("23 full", x.seen(9, false), -4);
        due("23 outside first", x.seen(64, false), -2);
        due("23 told", x.told(3), 8);
        due("23 the ninth is not seen", x.odds(9, 0), 1);
    }

    private static void forget() {
        SnoresGold x = new SnoresGold();
        due("24 none", x.forget(), 0);
        x.seen(0, true);
        x.seen(0, false);
        due("24 none fits", x.lodes(-1), 0);
        due("24 two", x.forget(), 2);
        due("24 gone", x.told(3), 0);
        due("24 all fit", x.lodes(-1), 46);
    }

    private static void lodes() {
        SnoresGold x = new SnoresGold();
        due("25 all", x.lodes(-1), 46);
        for (int i = 0; i < 46; i++) {
            due("25 all fit: " + i, x.lodes(i), i);
        }
        due("25 no 46th", x.lodes(46), -6);
        due("25 below -1", x.lodes(-2), -6);
        due("25 least", x.lodes(Integer.MIN_VALUE), -6);
        due("25 greatest", x.lodes(Integer.MAX_VALUE), -6);
        x.seen(10, true);
        int[] through = {1, 10, 24, 34};
        due("25 through x 2, y 1", x.lodes(-1), 4);
        for (int i = 0; i < 4; i++) {
            due("25 through x 2, y 1: " + i, x.lodes(i), through[i]);
        }
        due("25 no fifth", x.lodes(4), -6);
        x.seen(11, false);
        due("25 not the row", x.lodes(0), 10);
        x.seen(17, true);
        due("25 one", x.lodes(-1), 1);
        due("25 the falling diagonal", x.lodes(0), 34);
        x.seen(17, false);
        due("25 none", x.lodes(-1), 0);
        due("25 none is first", x.lodes(0), -6);
    }

    private static void lodesThroughEachCell() {
        SnoresGold x = new SnoresGold();
        for (int cell = 0; cell < 64; cell++) {
            int column = cell % 8;
            int row = cell / 8;
            x.forget();
            x.seen(cell, true);
            due("25 row of " + cell, x.lodes(0), row);
            due("25 column of " + cell, x.lodes(1), 8 + column);
            due("25 rising diagonal of " + cell, x.lodes(2), 23 + column - row);
            due("25 falling diagonal of " + cell, x.lodes(3), 31 + column + row);
        }
    }

    private static void odds() {
        SnoresGold x = new SnoresGold();
        due("26 four of 46, upper", x.odds(63, 0), 2);
        due("26 four of 46, lower", x.odds(63, 1), 23);
        x.seen(0, true);
        due("26 one of four, upper", x.odds(7, 0), 1);
        due("26 one of four, lower", x.odds(7, 1), 4);
        due("26 sure, upper", x.odds(0, 0), 1);
        due("26 sure, lower", x.odds(0, 1), 1);
        due("26 never, upper", x.odds(10, 0), 0);
        due("26 never, lower", x.odds(10, 1), 1);
        x.seen(0, false);
        due("26 none fits, upper", x.odds(0, 0), 0);
        due("26 none fits, lower", x.odds(0, 1), 1);
        due("26 cell 64", x.odds(64, 0), GONE_OUTSIDE);
        due("26 cell -1", x.odds(-1, 0), GONE_OUTSIDE);
        due("26 part 2", x.odds(0, 2), GONE_OUTSIDE);
        due("26 part -1", x.odds(0, -1), GONE_OUTSIDE);
    }

    private static void next() {
        SnoresGold x = new SnoresGold();
        due("27 any: the least", x.next(0), 0);
        due("27 any: how many", x.next(1), 42);
        x.seen(9, true);
        due("27 one of four", x.next(1), 3);
        due("27 one of four: where", x.next(0), 0);
        x.seen(0, false);
        // the row, the column and the falling diagonal of 9
        due("27 one of three: where", x.next(0), 1);
        due("27 one of three", x.next(1), 2);
        x.seen(1, false);
        due("27 one of two: where", x.next(0), 2);
        due("27 one of two", x.next(1), 1);
        x.seen(9, false);
        due("27 none", x.next(0), -6);
        due("27 none: how many", x.next(1), -6);
        due("27 what 2", x.next(2), -2);
        due("27 what -1", x.next(-1), -2);
    }

    private static void turns() {
        SnoresGold x = new SnoresGold();
        int[] rows = {0, 5, 500000, 500005, 600005, 500006, 123456, 654321, 190000, 91, 190, 111111, 999999, 900, 9000,
            181000, 129999};
        int[] leads = {100, 105, 105, 100, 101, 101, 103, 103, 108, 108, 108, 100, 100, 109, 109,
            106, 107};
        int[] ends = {0, 1, 0, 0, 0, 1, 1, 0, 1, 1, 1, 0, 0, 0, 1,
            1, 0};
        for (int i = 0; i < rows.length; i++) {
            due("28 lead " + rows[i], x.turns(rows[i], 0), 100 + lead(digits(rows[i]), 0, 5));
            due("28 end " + rows[i], x.turns(rows[i], 1), end(digits(rows[i])));
            if (i < 9) {
                due("28 by hand: lead " + rows[i], x.turns(rows[i], 0), leads[i]);
                due("28 by hand: end " + rows[i], x.turns(rows[i], 1), ends[i]);
            }
        }
        int[] wrong = {-1, 1000000, Integer.MIN_VALUE, Integer.MAX_VALUE};
        for (int row : wrong) {
            due("28 row " + row, x.turns(row, 0), -2);
        }
        due("28 what 2", x.turns(0, 2), -2);
        due("28 what -1", x.turns(0, -1), -2);
    }

    private static int[] digits(int row) {
        String text = String.format("%06d", row);
        int[] digits = new int[6];
        for (int i = 0; i < 6; i++) {
            digits[i] = text.charAt(i) - '0';
        }
        return digits;
    }

    private static int lead(int[] row, int from, int to) {
        if (from > to) {
            return 0;
        }
        return Math.max(row[from] - lead(row, from + 1, to), row[to] - lead(row, from, to - 1));
    }

    private static int end(int[] row) {
        return row[0] - lead(row, 1, 5) >= row[5] - lead(row, 0, 4) ? 0 : 1;
    }

    private static void chance(SnoresGold x, int cell, int t, int v, long upper, long lower) {
        String call = "29 colds(" + cell + ", " + t + ", " + v + ")";
        due(call + " upper", x.colds(cell, t, v, 0), upper);
        due(call + " lower", x.colds(cell, t, v, 1), lower);
    }

    private static void colds() {
        SnoresGold x = new SnoresGold();
        chance(x, 0, 5, 0, 1, 1);
        chance(x, 0, 5, 1, 0, 1);
        chance(x, 0, 5, -1, 0, 1);
        x.man(0, 0);
        x.man(1, 1);
        chance(x, 0, 3, 0, 1, 1);
        chance(x, 0, 3, 2, 51, 100);
        chance(x, 0, 3, 3, 3, 10);
        chance(x, 0, 3, 5, 9, 100);
        chance(x, 0, 3, 6, 0, 1);
        chance(x, 0, 3, -1, 3, 2);
        chance(x, 0, 0, 1, 0, 1);
        chance(x, 0, 0, -1, 0, 1);
        chance(x, 0, 10, 5, 1, 1);
        chance(x, 0, 10, -1, 5, 1);
        chance(x, 63, 10, 1, 0, 1);
        Due.write(x, "A*A~");
        x.done();
        // whatever he has now; half of 3 is 1
        chance(x, 0, 5, 1, 3, 4);
        chance(x, 0, 5, 3, 1, 4);
        chance(x, 0, 5, -1, 3, 2);
        for (int man = 0; man < 6; man++) {
            x.man(man, 0);
        }
        chance(x, 0, 1, 18, 1, 1000000);
        chance(x, 0, 1, 3, 468559, 1000000);
        chance(x, 0, 9, -1, 81, 5);
        chance(x, 0, 9, 999, 0, 1);
        chance(x, 0, 0, 0, 1, 1);
        Due.write(x, "Ae");
        chance(x, 0, 10, -1, 18, 1);
    }

    private static void coldsOfGold() {
        SnoresGold x = new SnoresGold();
        x.gold(0, 9);
        x.gold(1, 8);
        x.man(0, 0);
        x.man(4, 10);
        x.know(0, 0, true);
        x.know(4, 1, true);
        // A 9 or 12; E is 3 off: 5 or 8
        chance(x, 0, 2, 14, 1, 1);
        chance(x, 0, 2, 15, 9, 25);
        chance(x, 0, 2, 17, 9, 25);
        chance(x, 0, 2, 18, 1, 25);
        chance(x, 0, 2, 20, 1, 25);
        chance(x, 0, 2, 21, 0, 1);
        chance(x, 0, 2, -1, 76, 5);
        for (int cell = 20; cell < 31; cell++) {
            x.gold(cell, 9);
            x.know(0, cell, true);
        }
        x.leave(4);
        // 108: 99 with a cold or without
        chance(x, 0, 5, 99, 1, 1);
        chance(x, 0, 5, 100, 0, 1);
    }

    private static void coldsOutside() {
        SnoresGold x = new SnoresGold();
        x.man(0, 0);
        int[][] wrong = {{-1, 5, 0, 0}, {64, 5, 0, 0}, {0, -1, 0, 0}, {0, 11, 0, 0}, {0, 5, -2, 0}, {0, 5, 1000, 0},
            {0, 5, 0, -1}, {0, 5, 0, 2}, {Integer.MIN_VALUE, 5, 0, 0}, {0, Integer.MAX_VALUE, 0, 0}};
        for (int[] w : wrong) {
            due("29 outside", x.colds(w[0], w[1], w[2], w[3]), GONE_OUTSIDE);
        }
    }

    private static void year() {
        SnoresGold x = new SnoresGold();
        // seed 0: x 74, man 2, act 4; then 5624: man 2, act 1; seed 1: x 149, man 5, act 0
        x.man(2, 0);
        x.claim(5, 2);
        due("30 claimed before", x.year(0, 1, 1), 1);
        due("30 salt of none", x.year(0, 99, 0), 0);
        x.gold(1, 9);
        x.gold(2, 9);
        x.know(2, 1, true);
        x.know(2, 2, true);
        x.claim(1, 2);
        x.claim(2, 2);
        int nights = Draws.nightsOf(7, 99);
        due("30 salt of nights", x.year(7, 99, 0) >= 17 * nights ? 1 : 0, 1);
        due("30 the woman's", x.year(7, 99, 2), nights);
        x.leave(2);
        due("30 nobody: salt", x.year(7, 99, 0), 0);
        due("30 nobody: claimed", x.year(7, 99, 1), 0);
        due("30 nobody: the woman's", x.year(7, 99, 2), 0);
        x.man(0, 0);
        Due.write(x, ".A");
        x.year(9999, 99, 0);
        due("30 nothing is done: tent", x.told(10), 0);
        due("30 nothing is done: cold", x.told(13), 0);
        due("30 nothing is done: knows", x.told(15), 0);
        due("30 nothing is done: the pad", x.told(0), 2);
        due("30 a fault is no matter", x.year(0, 1, 1), 0);
        int[][] wrong = {{-1, 5, 0}, {10000, 5, 0}, {0, 0, 0}, {0, 100, 0}, {0, -1, 0}, {0, 5, -1}, {0, 5, 3},
            {Integer.MIN_VALUE, 5, 0}, {0, Integer.MAX_VALUE, 0}};
        for (int[] w : wrong) {
            due("30 outside", x.year(w[0], w[1], w[2]), -2);
        }
        due("30 least", x.year(0, 1, 0), 0);
        due("30 greatest", x.year(9999, 99, 0), 0);
    }

    /** What the acts do in a year, by seeds that draw just these. */
    private static void yearOfActs() {
        SnoresGold x = new SnoresGold();
        x.man(0, 0);
        x.man(3, 27);
        for (int cell = 0; cell < 64; cell++) {
            x.gold(cell, cell % 10);
        }
        due("30 A claims", x.year(Draws.seedOf("Ac"), 1, 1), 1);
        due("30 D claims", x.year(Draws.seedOf("Dc"), 1, 1), 1);
        due("30 B is not there", x.year(Draws.seedOf("Bc"), 1, 1), 0);
        due("30 D claims twice", x.year(Draws.seedOf("DcDc"), 2, 1), 1);
        due("30 A and D claim", x.year(Draws.seedOf("AcDc"), 2, 1), 2);
        x.claim(27, 0);
        due("30 D claims what is A's", x.year(Draws.seedOf("Dc"), 1, 1), 1);
        String steps = "nesw";
        int[] cells = {35, 28, 19, 26};
        for (int i = 0; i < 4; i++) {
            x.claim(cells[i], 3);
            due("30 D steps on what is his, and claims", x.year(Draws.seedOf("D" + steps.charAt(i) + "Dc"), 2, 1), 2);
            x.claim(cells[i], -1);
            due("30 D steps on what is nobody's", x.year(Draws.seedOf("D" + steps.charAt(i) + "Dc"), 2, 1), 2);
        }
        x.claim(27, 3);
        due("30 D digs, a night", x.year(Draws.seedOf("Dd."), 2, 0), 7);
        due("30 D digs, no night", x.year(Draws.seedOf("Dd"), 1, 0), 0);
        due("30 a night before he digs", x.year(Draws.seedOf(".Dd"), 2, 0), 0);
        due("30 two nights", x.year(Draws.seedOf(".."), 2, 0), 0);
        x.know(3, 27, true);
        due("30 D knows it", x.year(Draws.seedOf("."), 1, 0), 7);
        due("30 two nights of it", x.year(Draws.seedOf(".."), 2, 0), 14);
        due("30 he digs no more there", x.year(Draws.seedOf("Dd."), 2, 0), 7);
        x.claim(29, 3);
        x.know(3, 29, true);
        due("30 less the woman's", x.year(Draws.seedOf("."), 1, 0), 15);
        due("30 the woman's", x.year(Draws.seedOf("."), 1, 2), 1);
        Due.write(x, ".");
        x.done();
        due("30 the salt that was, too", x.year(Draws.seedOf("."), 1, 0), 30);
        due("30 the woman's of the year only", x.year(Draws.seedOf("."), 1, 2), 1);
        x.claim(28, 0);
        x.know(0, 28, true);
        due("30 of all together", x.year(Draws.seedOf("."), 1, 0), 38);
        due("30 a cold is no matter", x.year(Draws.seedOf("D*."), 2, 0), 38);
        x.leave(3);
        due("30 not of who is no more", x.year(Draws.seedOf("."), 1, 0), 8);
        due("30 as many acts as told", x.year(Draws.seedOf("..Ac"), 2, 0), 16);
    }

    private static void image() {
        SnoresGold x = new SnoresGold();
        due("31 image 0", x.image(0), 1);
        due("31 image 1", x.image(1), 1);
        due("31 image 0 again", x.image(0), 1);
        due("31 image 2", x.image(2), -2);
        due("31 image -1", x.image(-1), -2);
        x.man(0, 0);
        x.image(1);
        x.leave(0);
        x.restore(1);
        due("31 the later is kept", x.told(1), 1);
        x.restore(0);
        due("31 the other is as it was", x.told(1), 0);
    }

    private static void restore() {
        SnoresGold x = new SnoresGold();
        due("32 not kept: 0", x.restore(0), -3);
        due("32 not kept: 1", x.restore(1), -3);
        due("32 image 2", x.restore(2), -2);
        due("32 image -1", x.restore(-1), -2);
        x.gold(5, 7);
        x.man(1, 5);
        x.know(1, 5, true);
        x.claim(5, 1);
        Due.write(x, "B*B~.");
        x.done();
        x.tale(1, 5, true);
        x.seen(5, true);
        Due.write(x, "Bn");
        x.image(0);
        due("32 the other is not kept", x.restore(1), -3);
        x.man(1, 6);
        x.man(2, 6);
        x.gold(5, 1);
        x.claim(5, -1);
        x.claim(6, 2);
        x.hush();
        x.tale(2, 6, false);
        x.tale(2, 6, true);
        x.forget();
        Due.write(x, "...");
        due("32 restored", x.restore(0), 1);
        due("32 men", x.told(1), 2);
        due("32 gold, claim", x.told(105), 71);
        due("32 the other's claim", x.told(106), 9);
        due("32 tent", x.told(20), 5);
        due("32 snore", x.told(21), 5);
        due("32 salt", x.told(22), 7);
        due("32 cold", x.told(23), 1);
        due("32 whistles", x.told(24), 1);
        due("32 knows", x.told(25), 1);
        due("32 tales", x.told(2), 1);
        due("32 liars", x.liars(0), 0);
        x.man(0, 0);
        x.tale(0, 5, true);
        due("32 what he told", x.liars(0), 0);
        x.tale(1, 5, false);
        due("32 of that cell, and he himself", x.liars(0), -6);
        due("32 sights", x.told(3), 1);
        due("32 lodes", x.lodes(-1), 4);
        due("32 the pad stays", x.told(0), 3);
        x.leave(1);
        due("32 again", x.restore(0), 1);
        due("32 as it was again", x.told(1), 2);
    }

    private static void told() {
        SnoresGold x = new SnoresGold();
        x.man(0, 3);
        x.man(5, 63);
        x.gold(3, 9);
        x.gold(63, 4);
        x.know(5, 63, true);
        x.know(0, 0, true);
        x.claim(3, 5);
        x.claim(63, 0);
        Due.write(x, "F*");
        due("33 signs", x.told(0), 2);
        due("33 men", x.told(1), 33);
        int[] ofA = {3, 0, 0, 0, 0, 1};
        int[] ofF = {63, 4, 0, 0, 0, 1};
        for (int item = 0; item < 6; item++) {
            due("33 of A: " + item, x.told(10 + item), ofA[item]);
            due("33 of F: " + item, x.told(60 + item), ofF[item]);
        }
        due("33 cell 0", x.told(100), 9);
        due("33 cell 3", x.told(103), 95);
        due("33 cell 63", x.told(163), 40);
        due("33 A knows 0", x.told(200), 1);
        due("33 A knows 63", x.told(263), 0);
        due("33 F knows 63", x.told(1263), 1);
        due("33 F knows 0", x.told(1200), 0);
        int[] wrong = {-1, 4, 9, 16, 19, 20, 25, 30, 55, 66, 69, 70, 75, 99, 164, 199, 264, 399, 400, 463, 1000, 1063,
            1199, 1264, 1400, 1463, Integer.MIN_VALUE, Integer.MAX_VALUE, -10, -200};
        for (int what : wrong) {
            due("33 told(" + what + ")", x.told(what), -2);
        }
    }
}
