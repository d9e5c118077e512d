import java.util.Arrays;
import java.util.function.Supplier;

/** What the tests of the edges share: wrong numbers, camps to ask, and how two camps are told apart. */
final class Edges {
    static final int LEAST = Integer.MIN_VALUE, MOST = Integer.MAX_VALUE;
    static final int UNKNOWN = -1, OUTSIDE = -2, STATE = -3, FULL = -4, NO = -5, NONE = -6;
    static final long GONE_OUTSIDE = -1000000000000000002L;

    /** The document's sentences on all refused calls. */
    static final String ORDER = "Calls that are refused answer, the first of these that fits";
    static final String NO_CHANGE = "They change nothing";

    private Edges() {
    }

    interface Call {
        long on(SnoresGold x);
    }

    interface CallOf {
        long on(SnoresGold x, int number);
    }

    static void due(String call, long got, long want) {
        Due.due(call, got, want);
    }

    /** The next number on either side, the farthest, and those that a mask or a shift would take for one inside. */
    static int[] beside(int least, int greatest) {
        int[] all = {least - 1, greatest + 1, LEAST, MOST, least - 64, greatest - 64, least + 64, greatest - 32,
            least + 32, least - 32, least + 256, least + 65536, least - 65536, LEAST + 1, MOST - 1};
        int[] kept = new int[all.length];
        int count = 0;
        for (int number : all) {
            if (number < least || number > greatest) {
                kept[count] = number;
                count++;
            }
        }
        return Arrays.copyOf(kept, count);
    }

    /** Each of these numbers is refused so. */
    static void refused(String call, int[] numbers, long refusal, SnoresGold x, CallOf asked) {
        for (int number : numbers) {
            due(call + " of " + number, asked.on(x, number), refusal);
        }
    }

    /** A camp with men A, C and F, in which something of everything is. */
    static SnoresGold some() {
        SnoresGold x = new SnoresGold();
        for (int cell = 0; cell < 64; cell += 9) {
            x.gold(cell, cell % 10);
        }
        x.man(0, 0);
        x.man(2, 27);
        x.man(5, 63);
        x.know(0, 9, true);
        x.know(2, 27, true);
        x.know(2, 36, true);
        x.know(5, 63, true);
        x.claim(9, 0);
        x.claim(27, 2);
        x.claim(63, 5);
        x.claim(1, 5);
        Due.write(x, "A*C~.");
        x.done();
        x.tale(0, 9, true);
        x.tale(2, 9, false);
        x.seen(9, true);
        x.seen(10, false);
        x.image(0);
        x.gold(62, 2);
        x.man(4, 62);
        return x;
    }

    /** Such a camp with this text on the pad. */
    static SnoresGold some(String text) {
        SnoresGold x = some();
        Due.write(x, text);
        return x;
    }

    /** As many signs of a night. */
    static String nights(int many) {
        return ".".repeat(many);
    }

    /** A camp of this many men, from A on, all on this cell. */
    static SnoresGold menOn(int many, int cell) {
        SnoresGold x = new SnoresGold();
        for (int man = 0; man < many; man++) {
            x.man(man, cell);
        }
        return x;
    }

    /** Puts this much gold where a man then knows it, by cells from this one on: his snore is so much more. */
    static void enrich(SnoresGold x, int man, int from, int gold) {
        int cell = from;
        for (int rest = gold; rest > 0; rest -= 9) {
            x.gold(cell, Math.min(9, rest));
            x.know(man, cell, true);
            cell++;
        }
    }

    /** The call answers so, and the camp is then like another one that was never asked. */
    static void changesNothing(String call, long answer, Supplier<SnoresGold> camp, Call asked) {
        SnoresGold x = camp.get();
        due(call, asked.on(x), answer);
        same(call + ": then", x, camp.get());
    }

    /** Asks both for all that can be asked of them; uses both up. */
    static void same(String call, SnoresGold x, SnoresGold y) {
        for (int what = 0; what < 4; what++) {
            due(call + " told(" + what + ")", x.told(what), y.told(what));
        }
        for (int what = 10; what < 66; what++) {
            due(call + " told(" + what + ")", x.told(what), y.told(what));
        }
        for (int what = 100; what < 164; what++) {
            due(call + " told(" + what + ")", x.told(what), y.told(what));
        }
        int[] known = {0, 1, 9, 27, 28, 31, 32, 36, 62, 63};
        for (int man = 0; man < 6; man++) {
            for (int cell : known) {
                int what = 200 * (1 + man) + cell;
                due(call + " told(" + what + ")", x.told(what), y.told(what));
            }
        }
        due(call + " fault()", x.fault(), y.fault());
        for (int what = 0; what < 3; what++) {
            due(call + " judge(" + what + ")", x.judge(what), y.judge(what));
            due(call + " year(1, 99, " + what + ")", x.year(1, 99, what), y.year(1, 99, what));
        }
        for (int i = -1; i < 6; i++) {
            due(call + " lodes(" + i + ")", x.lodes(i), y.lodes(i));
        }
        due(call + " liars(1)", x.liars(1), y.liars(1));
        due(call + " restore(1)", x.restore(1), y.restore(1));
        due(call + " restore(0)", x.restore(0), y.restore(0));
        due(call + " restored men", x.told(1), y.told(1));
        due(call + " restored gold", x.told(162), y.told(162));
        due(call + " restored salt", x.told(32), y.told(32));
        due(call + " restored tales", x.told(2), y.told(2));
        due(call + " restored sights", x.told(3), y.told(3));
    }
}
