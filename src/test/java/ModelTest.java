/** Long runs of drawn calls: the class must answer as the model does, and never throw. */
public final class ModelTest {
    private static final int RUNS = 400, CALLS = 512;
    private static final int[] EXTREMES = {Integer.MIN_VALUE, Integer.MIN_VALUE + 1, -1000000, -65, -7, -2, -1, 0, 1, 2,
        3, 5, 6, 7, 9, 10, 11, 14, 15, 63, 64, 99, 100, 126, 127, 999, 1000, 9999, 10000, 999999, 1000000,
        Integer.MAX_VALUE - 1, Integer.MAX_VALUE};

    private long state = 1;
    private final SnoresGold real = new SnoresGold();
    private final Model model = new Model();
    private final int run;

    private ModelTest(int run) {
        this.run = run;
        state = 1000003L * run + 17;
    }

    public static void main(String[] args) {
        for (int run = 0; run < RUNS; run++) {
            new ModelTest(run).go();
        }
        Due.end();
    }

    /** From 0 to below many. */
    private int draw(int many) {
        state = state * 6364136223846793005L + 1442695040888963407L;
        return (int) ((state >>> 33) % many);
    }

    private int around(int least, int most) {
        if (run % 10 == 9 ? draw(3) == 0 : draw(60) == 0) {
            return EXTREMES[draw(EXTREMES.length)];
        }
        return least + draw(most - least + 1);
    }

    private int man() {
        return around(0, 5);
    }

    private int aCell() {
        // Few cells in some runs, so that men meet.
        return run % 3 == 0 ? around(0, 9) : around(0, 63);
    }

    private void go() {
        for (int call = 0; call < CALLS; call++) {
            int wrong = Due.wrong();
            try {
                if (call < 30 && draw(2) == 0) {
                    stockUp();
                } else {
                    oneCall();
                }
            } catch (RuntimeException thrown) {
                Due.due("run " + run + ", call " + call + " threw " + thrown, 1, 0);
            }
            if (Due.wrong() > wrong) {
                System.out.println("  in run " + run + " at call " + call);
                return;
            }
        }
    }

    private void due(String call, long got, long want) {
        Due.due(call, got, want);
    }

    private void stockUp() {
        int man = man();
        int cell = aCell();
        int v = around(0, 9);
        switch (draw(3)) {
            case 0 -> due("gold " + cell + " " + v, real.gold(cell, v), model.gold(cell, v));
            case 1 -> due("man " + man + " " + cell, real.man(man, cell), model.man(man, cell));
            default -> due("know " + man + " " + cell, real.know(man, cell, true), model.know(man, cell, true));
        }
    }

    private void oneCall() {
        switch (draw(8)) {
            case 0, 1 -> groundCall();
            case 2 -> text();
            case 3 -> weekCall();
            case 4 -> tentCall();
            case 5 -> lodeCall();
            case 6 -> chanceCall();
            default -> toldCall();
        }
    }

    private void groundCall() {
        int man = man();
        int cell = aCell();
        int v = around(0, 9);
        boolean is = draw(4) != 0;
        switch (draw(14)) {
            case 0, 1, 2 -> due("gold " + cell + " " + v, real.gold(cell, v), model.gold(cell, v));
            case 3 -> due("man " + man + " " + cell, real.man(man, cell), model.man(man, cell));
            case 4 -> {
                if (draw(3) == 0) {
                    due("leave " + man, real.leave(man), model.leave(man));
                }
            }
            case 5, 6, 7, 8, 9 -> due("know " + man + " " + cell + " " + is, real.know(man, cell, is),
                model.know(man, cell, is));
            case 10, 11 -> due("claim " + cell + " " + man, real.claim(cell, man), model.claim(cell, man));
            case 12 -> due("claim " + cell + " -1", real.claim(cell, -1), model.claim(cell, -1));
            default -> due("wipe", real.wipe(), model.wipe());
        }
    }

    private void sign(int sign) {
        due("say " + sign, real.say(sign), model.say(sign));
    }

    private void text() {
        if (draw(25) == 0) {
            sign(around(30, 130));
        } else if (draw(4) == 0) {
            sign('.');
        } else {
            sign('A' + draw(draw(9) == 0 ? 7 : 6));
            sign("neswdcdcdc*~".charAt(draw(12)));
        }
    }

    private void weekCall() {
        int man = man();
        int cell = aCell();
        int what = around(0, 3);
        switch (draw(9)) {
            case 0 -> due("fault", real.fault(), model.fault());
            case 1, 2 -> due("judge " + what, real.judge(what), model.judge(what));
            case 3 -> due("behind " + man + " " + what, real.behind(man, what), model.behind(man, what));
            case 4 -> due("heard " + cell, real.heard(cell), model.heard(cell));
            case 5 -> due("whose " + cell, real.whose(cell), model.whose(cell));
            case 6 -> due("nothing " + what, real.nothing(what), model.nothing(what));
            case 7 -> {
                int answer = real.done();
                due("done", answer, model.done());
                if (answer < 0) {
                    due("wipe", real.wipe(), model.wipe());
                }
            }
            default -> due("loudest " + what, real.loudest(what), model.loudest(what));
        }
    }

    private int twos() {
        if (draw(5) == 0) {
            return around(0, 543210);
        }
        int[] with = {0, 1, 2, 3, 4, 5};
        for (int times = draw(4); times > 0; times--) {
            int one = draw(6);
            int other = draw(6);
            boolean there = (model.told(1) >> one & model.told(1) >> other & 1) == 1;
            if (with[one] == one && with[other] == other && (there || draw(20) == 0)) {
                with[one] = other;
                with[other] = one;
            }
        }
        int number = 0;
        for (int mate : with) {
            number = 10 * number + mate;
        }
        return number;
    }

    private void tentCall() {
        int man = man();
        int cell = draw(2) == 0 ? around(0, 3) : aCell();
        int what = around(0, 1);
        int k = around(0, 14);
        boolean is = draw(2) == 0;
        int twos = twos();
        switch (draw(10)) {
            case 0, 1 -> due("sleep " + man + " " + k + " " + what, real.sleep(man, k, what),
                model.sleep(man, k, what));
            case 2, 3 -> due("hide " + man + " " + k + " " + what, real.hide(man, k, what), model.hide(man, k, what));
            case 4, 5 -> due("tale " + man + " " + cell + " " + is, real.tale(man, cell, is),
                model.tale(man, cell, is));
            case 6, 7 -> due("liars " + what, real.liars(what), model.liars(what));
            case 8 -> due("leaves " + twos, real.leaves(twos), model.leaves(twos));
            default -> {
                if (draw(4) == 0) {
                    due("hush", real.hush(), model.hush());
                }
            }
        }
    }

    private void lodeCall() {
        int cell = aCell();
        int what = around(0, 1);
        int i = around(-2, 12);
        boolean is = draw(4) == 0;
        switch (draw(7)) {
            case 0, 1 -> due("seen " + cell + " " + is, real.seen(cell, is), model.seen(cell, is));
            case 2 -> due("lodes " + i, real.lodes(i), model.lodes(i));
            case 3 -> due("odds " + cell + " " + what, real.odds(cell, what), model.odds(cell, what));
            case 4, 5 -> due("next " + what, real.next(what), model.next(what));
            default -> {
                if (draw(4) == 0) {
                    due("forget", real.forget(), model.forget());
                }
            }
        }
    }

    private void chanceCall() {
        int cell = aCell();
        int what = around(0, 1);
        int row = around(0, 999999);
        int t = around(0, 10);
        int v = draw(3) == 0 ? -1 : around(0, 60);
        int seed = around(0, 9999);
        int m = around(1, 99);
        int which = around(0, 2);
        int k = around(0, 1);
        switch (draw(8)) {
            case 0 -> due("turns " + row + " " + what, real.turns(row, what), model.turns(row, what));
            case 1, 2 -> due("colds " + cell + " " + t + " " + v + " " + what, real.colds(cell, t, v, what),
                model.colds(cell, t, v, what));
            case 3, 4 -> due("year " + seed + " " + m + " " + which, real.year(seed, m, which),
                model.year(seed, m, which));
            case 5, 6 -> due("image " + k, real.image(k), model.image(k));
            default -> due("restore " + k, real.restore(k), model.restore(k));
        }
    }

    private void toldCall() {
        int[] bases = {0, 10, 20, 30, 40, 50, 60, 100, 200, 400, 600, 800, 1000, 1200};
        int base = bases[draw(bases.length)];
        int what = base + around(0, base < 10 ? 4 : base < 100 ? 7 : 65);
        due("told " + what, real.told(what), model.told(what));
    }
}
