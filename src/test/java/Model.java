import java.math.BigInteger;
import java.util.ArrayList;
import java.util.HashMap;
import java.util.HashSet;
import java.util.List;
import java.util.Map;
import java.util.Set;
import java.util.TreeMap;
import java.util.TreeSet;
import java.util.regex.Pattern;

/** The document's words once more, in another and slower way, for comparison. */
final class Model {
    private static final int UNKNOWN = -1, OUTSIDE = -2, STATE = -3, FULL = -4, NO = -5, NONE = -6;
    private static final BigInteger GONE_OUTSIDE = new BigInteger("-1000000000000000002");
    private static final Pattern WHOLE = Pattern.compile("([A-F][neswdc*~]|\\.)*");
    private static final Pattern BEGUN = Pattern.compile("([A-F][neswdc*~]|\\.)*[A-F]?");

    private static final class Man {
        private int x;
        private int y;
        private int salt;
        private boolean cold;
        private boolean whistles;
        private final Set<Integer> knows = new TreeSet<>();

        Man copy() {
            Man other = new Man();
            other.x = x;
            other.y = y;
            other.salt = salt;
            other.cold = cold;
            other.whistles = whistles;
            other.knows.addAll(knows);
            return other;
        }
    }

    private static final class World {
        private final Map<Integer, Integer> gold = new HashMap<>();
        private final Map<Integer, Integer> claims = new TreeMap<>();
        private final TreeMap<Integer, Man> men = new TreeMap<>();
        private final List<int[]> tales = new ArrayList<>();
        private final List<int[]> sights = new ArrayList<>();
        private int womans;

        World copy() {
            World other = new World();
            other.gold.putAll(gold);
            other.claims.putAll(claims);
            men.forEach((number, man) -> other.men.put(number, man.copy()));
            other.tales.addAll(tales);
            other.sights.addAll(sights);
            return other;
        }

        int gold(int cell) {
            return gold.getOrDefault(cell, 0);
        }

        int snore(Man man, boolean cold) {
            int sum = man.knows.stream().mapToInt(this::gold).sum() + (cold ? 3 : 0);
            return Math.min(99, man.whistles ? (int) Math.floor(sum / 2.0) : sum);
        }

        int reaching(int strength, Man man, int cell) {
            int far = Math.abs(man.x - cell % 8) + Math.abs(man.y - cell / 8);
            return far >= strength ? 0 : strength - far;
        }

        int heard(int cell, int without) {
            int sum = 0;
            for (Map.Entry<Integer, Man> e : men.entrySet()) {
                if (e.getKey() != without) {
                    sum += reaching(snore(e.getValue(), e.getValue().cold), e.getValue(), cell);
                }
            }
            return sum;
        }

        /** 0, or why it can not be; if it can, it is. */
        int act(int number, char deed) {
            if (deed == '.') {
                men.forEach((n, man) -> {
                    int yield = 0;
                    for (int cell = 0; cell < 64; cell++) {
                        if (claims.getOrDefault(cell, -1).equals(n) && man.knows.contains(cell)) {
                            yield += gold(cell);
                        }
                    }
                    womans += yield / 10;
                    man.salt = Math.min(999, man.salt + yield - yield / 10);
                });
                return 0;
            }
            Man man = men.get(number);
            if (man == null) {
                return 1;
            }
            int x = man.x + (deed == 'e' ? 1 : deed == 'w' ? -1 : 0);
            int y = man.y + (deed == 'n' ? 1 : deed == 's' ? -1 : 0);
            if (x < 0 || y < 0 || x > 7 || y > 7) {
                return 2;
            }
            man.x = x;
            man.y = y;
            int cell = 8 * y + x;
            if (deed == 'd' && !man.knows.add(cell)) {
                return 3;
            }
            if (deed == 'c' && claims.putIfAbsent(cell, number) != null) {
                return 4;
            }
            man.cold ^= deed == '*';
            man.whistles ^= deed == '~';
            return 0;
        }
    }

    private World now = new World();
    private final World[] images = new World[2];
    private String pad = "";

    private World behind;
    private int acts;
    private int bad;
    private int why;
    private final List<Integer> empties = new ArrayList<>();

    private boolean there(int man) {
        return now.men.containsKey(man);
    }

    private static boolean in(int number, int least, int most) {
        return number >= least && number <= most;
    }

    private static boolean cell(int cell) {
        return in(cell, 0, 63);
    }

    int gold(int cell, int v) {
        if (!cell(cell) || !in(v, 0, 9)) {
            return OUTSIDE;
        }
        int was = now.gold(cell);
        now.gold.put(cell, v);
        return was;
    }

    int man(int man, int cell) {
        if (!in(man, 0, 5)) {
            return UNKNOWN;
        }
        if (!cell(cell)) {
            return OUTSIDE;
        }
        Man fresh = new Man();
        fresh.x = cell % 8;
        fresh.y = cell / 8;
        now.men.put(man, fresh);
        return now.men.size();
    }

    int leave(int man) {
        if (now.men.remove(man) == null) {
            return UNKNOWN;
        }
        now.claims.values().removeIf(owner -> owner == man);
        return now.men.size();
    }

    int know(int man, int cell, boolean is) {
        if (!there(man)) {
            return UNKNOWN;
        }
        if (!cell(cell)) {
            return OUTSIDE;
        }
        Set<Integer> knows = now.men.get(man).knows;
        if (is) {
            knows.add(cell);
        } else {
            knows.remove(cell);
        }
        return knows.size();
    }

    int claim(int cell, int man) {
        if (man != -1 && !there(man)) {
            return UNKNOWN;
        }
        if (!cell(cell)) {
            return OUTSIDE;
        }
        if (man == -1) {
            now.claims.remove(cell);
        } else {
            now.claims.put(cell, man);
        }
        return now.claims.size();
    }

    int say(int sign) {
        if (!in(sign, 33, 126)) {
            return OUTSIDE;
        }
        if (pad.length() == 60) {
            return FULL;
        }
        pad += (char) sign;
        return pad.length();
    }

    int wipe() {
        int were = pad.length();
        pad = "";
        return were;
    }

    int fault() {
        if (WHOLE.matcher(pad).matches()) {
            return NONE;
        }
        for (int i = 0; i < pad.length(); i++) {
            if (!BEGUN.matcher(pad.substring(0, i + 1)).matches()) {
                return i;
            }
        }
        return pad.length();
    }

    private int play() {
        if (fault() != NONE) {
            return NO;
        }
        behind = now.copy();
        acts = 0;
        bad = NONE;
        why = NONE;
        empties.clear();
        for (String act : pad.split("(?<=\\.)|(?<=[neswdc*~])")) {
            if (act.isEmpty()) {
                continue;
            }
            int reason = behind.act(act.charAt(0) - 'A', act.charAt(act.length() - 1));
            if (reason != 0) {
                bad = acts;
                why = reason;
                return STATE;
            }
            if (act.endsWith("c")) {
                Man man = behind.men.get(act.charAt(0) - 'A');
                if (behind.gold(8 * man.y + man.x) == 0) {
                    empties.add(acts);
                }
            }
            acts++;
        }
        return 0;
    }

    int judge(int what) {
        if (!in(what, 0, 2)) {
            return OUTSIDE;
        }
        int refused = play();
        if (refused == NO) {
            return NO;
        }
        if (what < 2) {
            return what == 0 ? bad : why;
        }
        return refused == STATE ? STATE : behind.womans;
    }

    int behind(int man, int what) {
        if (!there(man)) {
            return UNKNOWN;
        }
        if (!in(what, 0, 3)) {
            return OUTSIDE;
        }
        int refused = play();
        if (refused != 0) {
            return refused;
        }
        Man m = behind.men.get(man);
        int claimed = (int) behind.claims.values().stream().filter(owner -> owner == man).count();
        int[] answers = {8 * m.y + m.x, behind.snore(m, m.cold), m.salt, claimed};
        return answers[what];
    }

    int heard(int cell) {
        if (!cell(cell)) {
            return OUTSIDE;
        }
        int refused = play();
        return refused != 0 ? refused : behind.heard(cell, -1);
    }

    int whose(int cell) {
        if (!cell(cell)) {
            return OUTSIDE;
        }
        int refused = play();
        return refused != 0 ? refused : behind.claims.getOrDefault(cell, NONE);
    }

    int nothing(int what) {
        if (!in(what, 0, 1)) {
            return OUTSIDE;
        }
        int refused = play();
        if (refused != 0) {
            return refused;
        }
        return what == 1 ? empties.size() : empties.isEmpty() ? NONE : empties.get(0);
    }

    int done() {
        int refused = play();
        if (refused != 0) {
            return refused;
        }
        now = behind.copy();
        pad = "";
        return acts;
    }

    int loudest(int what) {
        if (!in(what, 0, 1)) {
            return OUTSIDE;
        }
        int best = 0;
        for (int cell = 63; cell >= 0; cell--) {
            if (now.heard(cell, -1) >= now.heard(best, -1)) {
                best = cell;
            }
        }
        return what == 0 ? best : now.heard(best, -1);
    }

    int sleep(int man, int k, int what) {
        return search(man, k, what, true);
    }

    int hide(int man, int k, int what) {
        return search(man, k, what, false);
    }

    private int search(int man, int k, int what, boolean hearing) {
        if (!there(man)) {
            return UNKNOWN;
        }
        if (!in(k, 0, 14) || !in(what, 0, 1)) {
            return OUTSIDE;
        }
        TreeMap<Integer, Integer> firstByLoudness = new TreeMap<>();
        Set<Integer> reach = new HashSet<>();
        reach.add(8 * now.men.get(man).y + now.men.get(man).x);
        for (int step = 0; step < k; step++) {
            for (int c : new ArrayList<>(reach)) {
                if (c % 8 > 0) {
                    reach.add(c - 1);
                }
                if (c % 8 < 7) {
                    reach.add(c + 1);
                }
                if (c >= 8) {
                    reach.add(c - 8);
                }
                if (c < 56) {
                    reach.add(c + 8);
                }
            }
        }
        for (int c : new TreeSet<>(reach)) {
            int loud = 0;
            if (hearing) {
                loud = now.heard(c, man);
            } else {
                Man m = now.men.get(man).copy();
                m.x = c % 8;
                m.y = c / 8;
                for (int other : now.men.keySet()) {
                    Man o = now.men.get(other);
                    loud += other == man ? 0 : now.reaching(now.snore(m, m.cold), m, 8 * o.y + o.x);
                }
            }
            firstByLoudness.putIfAbsent(loud, c);
        }
        return what == 0 ? firstByLoudness.firstEntry().getValue() : firstByLoudness.firstKey();
    }

    int tale(int man, int cell, boolean gold) {
        if (!there(man)) {
            return UNKNOWN;
        }
        if (!cell(cell)) {
            return OUTSIDE;
        }
        if (now.tales.size() == 8) {
            return FULL;
        }
        now.tales.add(new int[] {man, cell, gold ? 1 : 0});
        return now.tales.size();
    }

    int hush() {
        int were = now.tales.size();
        now.tales.clear();
        return were;
    }

    int liars(int what) {
        if (!in(what, 0, 1)) {
            return OUTSIDE;
        }
        for (int many = 0; many <= 6; many++) {
            for (int who = 0; who < 64; who++) {
                if (Integer.bitCount(who) == many && someGround(who)) {
                    return what == 0 ? many : who;
                }
            }
        }
        return NONE;
    }

    private boolean someGround(int liars) {
        Map<Integer, Integer> ground = new HashMap<>();
        for (int[] tale : now.tales) {
            int truth = tale[2] ^ liars >> tale[0] & 1;
            Integer before = ground.put(tale[1], truth);
            if (before != null && before != truth) {
                return false;
            }
        }
        return true;
    }

    private int twice(int one, int other) {
        Set<Integer> cells = new HashSet<>(now.men.get(one).knows);
        cells.addAll(now.men.get(other).knows);
        return (one == other ? 2 : 1) * cells.stream().mapToInt(now::gold).sum();
    }

    int leaves(int twos) {
        if (!in(twos, 0, 999999)) {
            return OUTSIDE;
        }
        String digits = String.format("%06d", twos);
        int[] with = new int[6];
        for (int i = 0; i < 6; i++) {
            with[i] = digits.charAt(i) - '0';
        }
        for (int i = 0; i < 6; i++) {
            if (with[i] > 5 || with[with[i]] != i || !there(i) && with[i] != i) {
                return OUTSIDE;
            }
        }
        for (int code = 0; code < 100; code++) {
            int one = code / 10;
            int other = code % 10;
            if (one <= other && there(one) && there(other) && with[one] != other) {
                int then = twice(one, other);
                if (then > twice(one, with[one]) && then > twice(other, with[other])) {
                    return code;
                }
            }
        }
        return NONE;
    }

    int seen(int cell, boolean is) {
        if (!cell(cell)) {
            return OUTSIDE;
        }
        if (now.sights.size() == 8) {
            return FULL;
        }
        now.sights.add(new int[] {cell, is ? 1 : 0});
        return now.sights.size();
    }

    int forget() {
        int were = now.sights.size();
        now.sights.clear();
        return were;
    }

    private static boolean lies(int lode, int cell) {
        int x = cell % 8;
        int y = cell / 8;
        if (lode < 8) {
            return y == lode;
        }
        if (lode < 16) {
            return x == lode - 8;
        }
        return lode < 31 ? x - y == lode - 23 : x + y == lode - 31;
    }

    private List<Integer> fitting() {
        List<Integer> fit = new ArrayList<>();
        for (int lode = 0; lode < 46; lode++) {
            boolean fits = true;
            for (int[] sight : now.sights) {
                fits &= lies(lode, sight[0]) == (sight[1] == 1);
            }
            if (fits) {
                fit.add(lode);
            }
        }
        return fit;
    }

    private int through(int cell) {
        return (int) fitting().stream().filter(lode -> lies(lode, cell)).count();
    }

    int lodes(int i) {
        List<Integer> fit = fitting();
        return i == -1 ? fit.size() : in(i, 0, fit.size() - 1) ? fit.get(i) : NONE;
    }

    private static long fraction(BigInteger upper, BigInteger lower, int part) {
        if (lower.signum() == 0) {
            return part;
        }
        BigInteger common = upper.gcd(lower);
        return (part == 0 ? upper : lower).divide(common).longValueExact();
    }

    long odds(int cell, int part) {
        if (!cell(cell) || !in(part, 0, 1)) {
            return GONE_OUTSIDE.longValueExact();
        }
        return fraction(BigInteger.valueOf(through(cell)), BigInteger.valueOf(fitting().size()), part);
    }

    int next(int what) {
        if (!in(what, 0, 1)) {
            return OUTSIDE;
        }
        int all = fitting().size();
        if (all == 0) {
            return NONE;
        }
        TreeMap<Integer, Integer> firstByMost = new TreeMap<>();
        for (int cell = 0; cell < 64; cell++) {
            int on = through(cell);
            firstByMost.putIfAbsent(Math.max(on, all - on), cell);
        }
        return what == 0 ? firstByMost.firstEntry().getValue() : firstByMost.firstKey();
    }

    private static int lead(String row) {
        if (row.isEmpty()) {
            return 0;
        }
        return Math.max(byLeft(row), byRight(row));
    }

    private static int byLeft(String row) {
        return row.charAt(0) - '0' - lead(row.substring(1));
    }

    private static int byRight(String row) {
        int last = row.length() - 1;
        return row.charAt(last) - '0' - lead(row.substring(0, last));
    }

    int turns(int row, int what) {
        if (!in(row, 0, 999999) || !in(what, 0, 1)) {
            return OUTSIDE;
        }
        String text = String.format("%06d", row);
        return what == 0 ? 100 + lead(text) : byLeft(text) >= byRight(text) ? 0 : 1;
    }

    long colds(int cell, int t, int v, int part) {
        if (!cell(cell) || !in(t, 0, 10) || !in(v, -1, 999) || !in(part, 0, 1)) {
            return GONE_OUTSIDE.longValueExact();
        }
        BigInteger[] chances = {BigInteger.ONE};
        for (Man man : now.men.values()) {
            int calm = now.reaching(now.snore(man, false), man, cell);
            int sick = now.reaching(now.snore(man, true), man, cell);
            BigInteger[] more = new BigInteger[chances.length + 99];
            java.util.Arrays.fill(more, BigInteger.ZERO);
            for (int loud = 0; loud < chances.length; loud++) {
                more[loud + calm] = more[loud + calm].add(chances[loud].multiply(BigInteger.valueOf(10 - t)));
                more[loud + sick] = more[loud + sick].add(chances[loud].multiply(BigInteger.valueOf(t)));
            }
            chances = more;
        }
        BigInteger upper = BigInteger.ZERO;
        for (int loud = 0; loud < chances.length; loud++) {
            if (v == -1) {
                upper = upper.add(chances[loud].multiply(BigInteger.valueOf(loud)));
            } else if (loud >= v) {
                upper = upper.add(chances[loud]);
            }
        }
        return fraction(upper, BigInteger.TEN.pow(now.men.size()), part);
    }

    int year(int seed, int m, int what) {
        if (!in(seed, 0, 9999) || !in(m, 1, 99) || !in(what, 0, 2)) {
            return OUTSIDE;
        }
        World world = now.copy();
        long x = seed;
        for (int i = 0; i < m; i++) {
            x = (75 * x + 74) % 65537;
            char deed = "neswdc.*".charAt((int) (x / 6 % 8));
            world.act((int) (x % 6), deed);
        }
        int salt = world.men.values().stream().mapToInt(man -> man.salt).sum();
        int[] answers = {salt, world.claims.size(), world.womans};
        return answers[what];
    }

    int image(int k) {
        if (!in(k, 0, 1)) {
            return OUTSIDE;
        }
        images[k] = now.copy();
        return 1;
    }

    int restore(int k) {
        if (!in(k, 0, 1)) {
            return OUTSIDE;
        }
        if (images[k] == null) {
            return STATE;
        }
        now = images[k].copy();
        return 1;
    }

    int told(int what) {
        Map<Integer, Integer> answers = new HashMap<>();
        answers.put(0, pad.length());
        answers.put(1, now.men.keySet().stream().mapToInt(man -> 1 << man).sum());
        answers.put(2, now.tales.size());
        answers.put(3, now.sights.size());
        for (int cell = 0; cell < 64; cell++) {
            answers.put(100 + cell, 10 * now.gold(cell) + now.claims.getOrDefault(cell, 9));
        }
        now.men.forEach((n, man) -> {
            int ten = 10 * (1 + n);
            answers.put(ten, 8 * man.y + man.x);
            answers.put(ten + 1, now.snore(man, man.cold));
            answers.put(ten + 2, man.salt);
            answers.put(ten + 3, man.cold ? 1 : 0);
            answers.put(ten + 4, man.whistles ? 1 : 0);
            answers.put(ten + 5, man.knows.size());
            for (int cell = 0; cell < 64; cell++) {
                answers.put(200 * (1 + n) + cell, man.knows.contains(cell) ? 1 : 0);
            }
        });
        return answers.getOrDefault(what, OUTSIDE);
    }
}
