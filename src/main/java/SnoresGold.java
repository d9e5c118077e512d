/**
 * A camp whose snores are read for gold: ground, men, weeks, lodes. The document that tells what
 * each call promises is ../shared/DOC.md; README.md tells how to use the class.
 */
public final class SnoresGold {
    public static final int UNKNOWN = -1, OUTSIDE = -2, STATE = -3, FULL = -4, NO = -5, NONE = -6;
    public static final long GONE = -1000000000000000000L;

    private static final int ALLOWED = 0;
    private static final int SIDE = 8, CELLS = 64, MEN = 6, NOBODY = -1;
    private static final int MOST_GOLD = 9, MOST_SALT = 999, MOST_SNORE = 99, MOST_STEPS = 14, MOST_ASKED = 999;
    private static final int MOST_SIGNS = 60, LEAST_SIGN = 33, GREATEST_SIGN = 126;
    private static final int MOST_TALES = 8, MOST_SIGHTS = 8;
    private static final int DIGITS = 6, MOST_DIGITS = 999999;
    private static final int MOST_SEED = 9999, MOST_YEAR = 99;
    private static final int TENTHS = 10;

    // The first eight are numbered as a year draws them.
    private static final int NORTH = 0, EAST = 1, SOUTH = 2, WEST = 3, DIG = 4, CLAIM = 5, NIGHT = 6, CATCH_COLD = 7,
            WHISTLE = 8;
    private static final char[] DEED_SIGNS = {'n', 'e', 's', 'w', 'd', 'c', '.', '*', '~'};

    private static final int NO_SUCH_MAN = 1, LEAVES_GROUND = 2, KNOWN_ALREADY = 3, CLAIMED_ALREADY = 4;

    private final Memory now;
    private final Memory imageZero;
    private final Memory imageOne;
    private final Pad pad;
    private final Week week;
    /** Where weeks and years are played, so that nothing is done in fact. */
    private final Camp ahead;
    private final int[] digits;
    private final int[] leads;
    private final int[] heardCalm;
    private final int[] heardCold;

    public SnoresGold() {
        now = new Memory();
        imageZero = new Memory();
        imageOne = new Memory();
        pad = new Pad();
        week = new Week();
        ahead = new Camp();
        digits = new int[DIGITS];
        leads = new int[DIGITS];
        heardCalm = new int[MEN];
        heardCold = new int[MEN];
    }

    // ---- 1 ground, men

    public int gold(int cell, int v) {
        if (!isCell(cell) || !isWithin(v, 0, MOST_GOLD)) {
            return OUTSIDE;
        }
        int before = now.camp.goldOf(cell);
        now.camp.putGold(cell, v);
        return before;
    }

    public int man(int man, int cell) {
        if (!isManNumber(man)) {
            return UNKNOWN;
        }
        if (!isCell(cell)) {
            return OUTSIDE;
        }
        now.camp.welcome(man, cell);
        return now.camp.countMen();
    }

    public int leave(int man) {
        if (!now.camp.isThere(man)) {
            return UNKNOWN;
        }
        now.camp.farewell(man);
        return now.camp.countMen();
    }

    public int know(int man, int cell, boolean is) {
        if (!now.camp.isThere(man)) {
            return UNKNOWN;
        }
        if (!isCell(cell)) {
            return OUTSIDE;
        }
        now.camp.setKnown(man, cell, is);
        return Long.bitCount(now.camp.knownTo(man));
    }

    public int claim(int cell, int man) {
        if (man != NOBODY && !now.camp.isThere(man)) {
            return UNKNOWN;
        }
        if (!isCell(cell)) {
            return OUTSIDE;
        }
        now.camp.setClaimer(cell, man);
        return now.camp.countClaimed();
    }

    public int say(int sign) {
        if (!isWithin(sign, LEAST_SIGN, GREATEST_SIGN)) {
            return OUTSIDE;
        }
        return pad.add(sign) ? pad.size() : FULL;
    }

    public int wipe() {
        int before = pad.size();
        pad.clear();
        return before;
    }

    public int fault() {
        return pad.firstFault();
    }

    // ---- 2 weeks

    public int judge(int what) {
        if (!isWithin(what, 0, 2)) {
            return OUTSIDE;
        }
        int refusal = playWeeks();
        if (refusal == NO || (refusal == STATE && what == 2)) {
            return refusal;
        }
        switch (what) {
            case 0:
                return week.badAct();
            case 1:
                return week.badReason();
            default:
                return ahead.womansShare();
        }
    }

    public int behind(int man, int what) {
        if (!now.camp.isThere(man)) {
            return UNKNOWN;
        }
        if (!isWithin(what, 0, 3)) {
            return OUTSIDE;
        }
        int refusal = playWeeks();
        if (refusal != ALLOWED) {
            return refusal;
        }
        switch (what) {
            case 0:
                return ahead.tentOf(man);
            case 1:
                return ahead.snoreOf(man);
            case 2:
                return ahead.saltOf(man);
            default:
                return ahead.countClaimedBy(man);
        }
    }

    public int heard(int cell) {
        if (!isCell(cell)) {
            return OUTSIDE;
        }
        int refusal = playWeeks();
        if (refusal != ALLOWED) {
            return refusal;
        }
        ahead.listen();
        return ahead.heardAt(cell);
    }

    public int whose(int cell) {
        if (!isCell(cell)) {
            return OUTSIDE;
        }
        int refusal = playWeeks();
        if (refusal != ALLOWED) {
            return refusal;
        }
        int claimer = ahead.claimerOf(cell);
        return claimer == NOBODY ? NONE : claimer;
    }

    public int nothing(int what) {
        if (!isZeroOrOne(what)) {
            return OUTSIDE;
        }
        int refusal = playWeeks();
        if (refusal != ALLOWED) {
            return refusal;
        }
        return what == 0 ? week.firstEmptyClaim() : week.countEmptyClaims();
    }

    public int done() {
        int refusal = playWeeks();
        if (refusal != ALLOWED) {
            return refusal;
        }
        now.camp.copyFrom(ahead);
        pad.clear();
        return week.countActs();
    }

    public int loudest(int what) {
        if (!isZeroOrOne(what)) {
            return OUTSIDE;
        }
        Camp camp = now.camp;
        camp.listen();
        int best = NONE;
        int most = 0;
        for (int cell = 0; cell < CELLS; cell++) {
            int loud = camp.heardAt(cell);
            if (best == NONE || loud > most) {
                best = cell;
                most = loud;
            }
        }
        return what == 0 ? best : most;
    }

    /** Plays the pad ahead; answers how a call is refused that needs all of it to be possible. */
    private int playWeeks() {
        if (pad.firstFault() != NONE) {
            return NO;
        }
        ahead.copyFrom(now.camp);
        week.play(pad, ahead);
        return week.badAct() == NONE ? ALLOWED : STATE;
    }

    // ---- 3 where to sleep, liars, partners

    public int sleep(int man, int k, int what) {
        int refusal = refusalOfSteps(man, k, what);
        return refusal != ALLOWED ? refusal : quietest(man, k, what, false);
    }

    public int hide(int man, int k, int what) {
        int refusal = refusalOfSteps(man, k, what);
        return refusal != ALLOWED ? refusal : quietest(man, k, what, true);
    }

    public int tale(int man, int cell, boolean gold) {
        if (!now.camp.isThere(man)) {
            return UNKNOWN;
        }
        if (!isCell(cell)) {
            return OUTSIDE;
        }
        return now.tales.add(man, cell, gold) ? now.tales.size() : FULL;
    }

    public int hush() {
        int before = now.tales.size();
        now.tales.clear();
        return before;
    }

    public int liars(int what) {
        if (!isZeroOrOne(what)) {
            return OUTSIDE;
        }
        int fewest = now.tales.fewestLiars();
        if (fewest == NONE) {
            return NONE;
        }
        return what == 0 ? Integer.bitCount(fewest) : fewest;
    }

    public int leaves(int twos) {
        if (!isWithin(twos, 0, MOST_DIGITS)) {
            return OUTSIDE;
        }
        readDigits(twos);
        if (!digitsAreTwos()) {
            return OUTSIDE;
        }
        for (int one = 0; one < MEN; one++) {
            for (int other = one; other < MEN; other++) {
                if (wouldRatherShare(one, other)) {
                    return 10 * one + other;
                }
            }
        }
        return NONE;
    }

    private int refusalOfSteps(int man, int k, int what) {
        if (!now.camp.isThere(man)) {
            return UNKNOWN;
        }
        return isWithin(k, 0, MOST_STEPS) && isZeroOrOne(what) ? ALLOWED : OUTSIDE;
    }

    /** The cell in reach at which a man hears least, or is heard least by the others, or how much that is. */
    private int quietest(int man, int k, int what, boolean ofHim) {
        Camp camp = now.camp;
        camp.listen();
        int from = camp.tentOf(man);
        int best = NONE;
        int least = 0;
        for (int cell = 0; cell < CELLS; cell++) {
            if (distance(from, cell) <= k) {
                int loud = ofHim ? camp.heardByOthers(man, cell) : camp.heardWithout(man, cell);
                if (best == NONE || loud < least) {
                    best = cell;
                    least = loud;
                }
            }
        }
        return what == 0 ? best : least;
    }

    private void readDigits(int number) {
        int rest = number;
        for (int i = digits.length - 1; i >= 0; i--) {
            digits[i] = rest % 10;
            rest /= 10;
        }
    }

    private int digitAt(int i) {
        return i >= 0 && i < digits.length ? digits[i] : 0;
    }

    private boolean digitsAreTwos() {
        for (int man = 0; man < MEN; man++) {
            int mate = digitAt(man);
            if (!isManNumber(mate) || digitAt(mate) != man) {
                return false;
            }
            if (mate != man && !now.camp.isThere(man)) {
                return false;
            }
        }
        return true;
    }

    /** Whether two who are not together would each have more so; the same man twice is one who would go alone. */
    private boolean wouldRatherShare(int one, int other) {
        Camp camp = now.camp;
        int mateOfOne = digitAt(one);
        if (!camp.isThere(one) || !camp.isThere(other) || mateOfOne == other) {
            return false;
        }
        int so = camp.twiceShare(one, other);
        return so > camp.twiceShare(one, mateOfOne) && so > camp.twiceShare(other, digitAt(other));
    }

    // ---- 4 lodes, claims, colds

    public int seen(int cell, boolean is) {
        if (!isCell(cell)) {
            return OUTSIDE;
        }
        return now.sights.add(cell, is) ? now.sights.size() : FULL;
    }

    public int forget() {
        int before = now.sights.size();
        now.sights.clear();
        return before;
    }

    public int lodes(int i) {
        return i == -1 ? now.sights.countFitting() : now.sights.fittingAt(i);
    }

    public long odds(int cell, int part) {
        if (!isCell(cell) || !isZeroOrOne(part)) {
            return GONE + OUTSIDE;
        }
        return partOfFraction(now.sights.countThrough(cell), now.sights.countFitting(), part);
    }

    public int next(int what) {
        if (!isZeroOrOne(what)) {
            return OUTSIDE;
        }
        int all = now.sights.countFitting();
        if (all == 0) {
            return NONE;
        }
        int best = NONE;
        int fewest = all;
        for (int cell = 0; cell < CELLS; cell++) {
            int on = now.sights.countThrough(cell);
            int left = Math.max(on, all - on);
            if (best == NONE || left < fewest) {
                best = cell;
                fewest = left;
            }
        }
        return what == 0 ? best : fewest;
    }

    public int turns(int row, int what) {
        if (!isWithin(row, 0, MOST_DIGITS) || !isZeroOrOne(what)) {
            return OUTSIDE;
        }
        readDigits(row);
        for (int length = 1; length < DIGITS; length++) {
            findLeads(length);
        }
        int byLeft = digitAt(0) - leadAt(1);
        int byRight = digitAt(DIGITS - 1) - leadAt(0);
        if (what == 1) {
            return byLeft >= byRight ? 0 : 1;
        }
        return 100 + Math.max(byLeft, byRight);
    }

    public long colds(int cell, int t, int v, int part) {
        if (!isCell(cell) || !isWithin(t, 0, TENTHS) || !isWithin(v, -1, MOST_ASKED) || !isZeroOrOne(part)) {
            return GONE + OUTSIDE;
        }
        hearWithAndWithoutCold(cell);
        int men = now.camp.menBits();
        long upper = 0;
        for (int sick = 0; sick < 1 << MEN; sick++) {
            if ((sick & men) == sick) {
                int loud = heardIfSick(men, sick);
                long weight = weightOf(Integer.bitCount(sick), Integer.bitCount(men & ~sick), t);
                if (v == -1) {
                    upper += weight * loud;
                } else if (loud >= v) {
                    upper += weight;
                }
            }
        }
        return partOfFraction(upper, power(TENTHS, Integer.bitCount(men)), part);
    }

    public int year(int seed, int m, int what) {
        if (!isWithin(seed, 0, MOST_SEED) || !isWithin(m, 1, MOST_YEAR) || !isWithin(what, 0, 2)) {
            return OUTSIDE;
        }
        ahead.copyFrom(now.camp);
        int x = seed;
        for (int act = 0; act < m; act++) {
            x = (75 * x + 74) % 65537;
            int man = x % 6;
            int deed = x / 6 % 8;
            if (ahead.reasonAgainst(man, deed) == ALLOWED) {
                ahead.perform(man, deed);
            }
        }
        switch (what) {
            case 0:
                return ahead.allSalt();
            case 1:
                return ahead.countClaimed();
            default:
                return ahead.womansShare();
        }
    }

    public int image(int k) {
        if (!isZeroOrOne(k)) {
            return OUTSIDE;
        }
        Memory kept = imageOf(k);
        kept.copyFrom(now);
        kept.markKept();
        return 1;
    }

    public int restore(int k) {
        if (!isZeroOrOne(k)) {
            return OUTSIDE;
        }
        Memory kept = imageOf(k);
        if (!kept.isKept()) {
            return STATE;
        }
        now.copyFrom(kept);
        return 1;
    }

    public int told(int what) {
        switch (what) {
            case 0:
                return pad.size();
            case 1:
                return now.camp.menBits();
            case 2:
                return now.tales.size();
            case 3:
                return now.sights.size();
            default:
                break;
        }
        if (isWithin(what, 10, 99)) {
            return toldOfMan(what / 10 - 1, what % 10);
        }
        if (isWithin(what, 100, 199)) {
            return toldOfCell(what - 100);
        }
        return what >= 200 ? toldOfKnown(what / 200 - 1, what % 200) : OUTSIDE;
    }

    private int toldOfMan(int man, int item) {
        Camp camp = now.camp;
        if (!camp.isThere(man)) {
            return OUTSIDE;
        }
        switch (item) {
            case 0:
                return camp.tentOf(man);
            case 1:
                return camp.snoreOf(man);
            case 2:
                return camp.saltOf(man);
            case 3:
                return camp.hasCold(man) ? 1 : 0;
            case 4:
                return camp.isWhistling(man) ? 1 : 0;
            case 5:
                return Long.bitCount(camp.knownTo(man));
            default:
                return OUTSIDE;
        }
    }

    private int toldOfCell(int cell) {
        if (!isCell(cell)) {
            return OUTSIDE;
        }
        int claimer = now.camp.claimerOf(cell);
        return 10 * now.camp.goldOf(cell) + (claimer == NOBODY ? 9 : claimer);
    }

    private int toldOfKnown(int man, int cell) {
        if (!now.camp.isThere(man) || !isCell(cell)) {
            return OUTSIDE;
        }
        return now.camp.isKnownTo(man, cell) ? 1 : 0;
    }

    private Memory imageOf(int k) {
        return k == 0 ? imageZero : imageOne;
    }

    private int leadAt(int i) {
        return i >= 0 && i < leads.length ? leads[i] : 0;
    }

    /**
     * For each stretch of the row of that length, by its left end: how much more who is to take gets of it. The
     * stretches one shorter must stand in the row; rising, each is read before it is written over.
     */
    private void findLeads(int length) {
        for (int i = 0; i < leads.length && i + length <= DIGITS; i++) {
            if (length == 1) {
                leads[i] = digitAt(i);
            } else {
                leads[i] = Math.max(digitAt(i) - leadAt(i + 1), digitAt(i + length - 1) - leads[i]);
            }
        }
    }

    private void hearWithAndWithoutCold(int cell) {
        Camp camp = now.camp;
        for (int man = 0; man < MEN; man++) {
            int far = distance(camp.tentOf(man), cell);
            heardCalm[man] = Math.max(0, camp.snoreIf(man, false) - far);
            heardCold[man] = Math.max(0, camp.snoreIf(man, true) - far);
        }
    }

    private int heardIfSick(int men, int sick) {
        int loud = 0;
        for (int man = 0; man < MEN; man++) {
            if (hasBit(men, man)) {
                loud += hasBit(sick, man) ? heardCold[man] : heardCalm[man];
            }
        }
        return loud;
    }

    private static long weightOf(int sick, int well, int tenths) {
        return power(tenths, sick) * power(TENTHS - tenths, well);
    }

    private static long power(int base, int exponent) {
        long product = 1;
        for (int i = 0; i < exponent; i++) {
            product *= base;
        }
        return product;
    }

    private static long partOfFraction(long upper, long lower, int part) {
        long divisor = greatestDivisor(upper, lower);
        if (lower == 0 || divisor == 0) {
            return part == 0 ? 0 : 1;
        }
        return (part == 0 ? upper : lower) / divisor;
    }

    private static long greatestDivisor(long a, long b) {
        long greater = a;
        long lesser = b;
        // Euclid's steps for longs are under a hundred.
        for (int step = 0; step < 100 && lesser != 0; step++) {
            long rest = greater % lesser;
            greater = lesser;
            lesser = rest;
        }
        return greater;
    }

    private static boolean isWithin(int number, int least, int greatest) {
        return number >= least && number <= greatest;
    }

    private static boolean isZeroOrOne(int number) {
        return number == 0 || number == 1;
    }

    private static boolean isCell(int cell) {
        return cell >= 0 && cell < CELLS;
    }

    private static boolean isManNumber(int man) {
        return man >= 0 && man < MEN;
    }

    private static boolean hasBit(int set, int man) {
        return man >= 0 && man < MEN && (set >> man & 1) == 1;
    }

    private static int columnOf(int cell) {
        return cell % SIDE;
    }

    private static int rowOf(int cell) {
        return cell / SIDE;
    }

    private static int distance(int from, int to) {
        return Math.abs(columnOf(from) - columnOf(to)) + Math.abs(rowOf(from) - rowOf(to));
    }

    /** All that an image keeps. */
    private static final class Memory {
        private final Camp camp;
        private final Tales tales;
        private final Sights sights;
        private boolean kept;

        Memory() {
            camp = new Camp();
            tales = new Tales();
            sights = new Sights();
        }

        void copyFrom(Memory other) {
            camp.copyFrom(other.camp);
            tales.copyFrom(other.tales);
            sights.copyFrom(other.sights);
        }

        void markKept() {
            kept = true;
        }

        boolean isKept() {
            return kept;
        }
    }

    /** The ground and the men on it. */
    private static final class Camp {
        private final int[] goldOn;
        private final int[] claimers;
        private final int[] tents;
        private final int[] salts;
        private final long[] known;
        private final int[] snores;
        private int men;
        private int withCold;
        private int whistling;
        private int womans;

        Camp() {
            goldOn = new int[CELLS];
            claimers = new int[CELLS];
            for (int cell = 0; cell < CELLS; cell++) {
                claimers[cell] = NOBODY;
            }
            tents = new int[MEN];
            salts = new int[MEN];
            known = new long[MEN];
            snores = new int[MEN];
        }

        /** What the old woman had is counted anew from here. */
        void copyFrom(Camp other) {
            System.arraycopy(other.goldOn, 0, goldOn, 0, CELLS);
            System.arraycopy(other.claimers, 0, claimers, 0, CELLS);
            System.arraycopy(other.tents, 0, tents, 0, MEN);
            System.arraycopy(other.salts, 0, salts, 0, MEN);
            System.arraycopy(other.known, 0, known, 0, MEN);
            men = other.men;
            withCold = other.withCold;
            whistling = other.whistling;
            womans = 0;
        }

        int goldOf(int cell) {
            return isCell(cell) ? goldOn[cell] : 0;
        }

        void putGold(int cell, int v) {
            if (isCell(cell)) {
                goldOn[cell] = v;
            }
        }

        int goldIn(long cells) {
            int sum = 0;
            for (int cell = 0; cell < CELLS; cell++) {
                if ((cells >>> cell & 1) == 1) {
                    sum += goldOn[cell];
                }
            }
            return sum;
        }

        int claimerOf(int cell) {
            return isCell(cell) ? claimers[cell] : NOBODY;
        }

        void setClaimer(int cell, int man) {
            if (isCell(cell)) {
                claimers[cell] = man;
            }
        }

        int countClaimedBy(int man) {
            return Long.bitCount(cellsClaimedBy(man));
        }

        int countClaimed() {
            return CELLS - countClaimedBy(NOBODY);
        }

        private long cellsClaimedBy(int man) {
            long cells = 0;
            for (int cell = 0; cell < CELLS; cell++) {
                if (claimers[cell] == man) {
                    cells |= 1L << cell;
                }
            }
            return cells;
        }

        int menBits() {
            return men;
        }

        int countMen() {
            return Integer.bitCount(men);
        }

        boolean isThere(int man) {
            return hasBit(men, man);
        }

        void welcome(int man, int cell) {
            if (isManNumber(man)) {
                forgetMan(man);
                men |= 1 << man;
                tents[man] = cell;
            }
        }

        void farewell(int man) {
            if (isManNumber(man)) {
                forgetMan(man);
                men &= ~(1 << man);
                for (int cell = 0; cell < CELLS; cell++) {
                    if (claimers[cell] == man) {
                        claimers[cell] = NOBODY;
                    }
                }
            }
        }

        private void forgetMan(int man) {
            if (isManNumber(man)) {
                tents[man] = 0;
                salts[man] = 0;
                known[man] = 0;
                withCold &= ~(1 << man);
                whistling &= ~(1 << man);
            }
        }

        int tentOf(int man) {
            return isManNumber(man) ? tents[man] : 0;
        }

        int saltOf(int man) {
            return isManNumber(man) ? salts[man] : 0;
        }

        int allSalt() {
            int sum = 0;
            for (int man = 0; man < MEN; man++) {
                sum += salts[man];
            }
            return sum;
        }

        int womansShare() {
            return womans;
        }

        long knownTo(int man) {
            return isManNumber(man) ? known[man] : 0;
        }

        boolean isKnownTo(int man, int cell) {
            return isManNumber(man) && isCell(cell) && (known[man] >>> cell & 1) == 1;
        }

        void setKnown(int man, int cell, boolean is) {
            if (isManNumber(man) && isCell(cell)) {
                long bit = 1L << cell;
                known[man] = is ? known[man] | bit : known[man] & ~bit;
            }
        }

        boolean hasCold(int man) {
            return hasBit(withCold, man);
        }

        boolean isWhistling(int man) {
            return hasBit(whistling, man);
        }

        int snoreOf(int man) {
            return snoreIf(man, hasCold(man));
        }

        int snoreIf(int man, boolean cold) {
            int snore = goldIn(knownTo(man));
            if (cold) {
                snore += 3;
            }
            if (isWhistling(man)) {
                snore /= 2;
            }
            return Math.min(snore, MOST_SNORE);
        }

        /** Must go before what is heard is asked: a snore costs a walk over all cells, so each is taken once. */
        void listen() {
            for (int man = 0; man < MEN; man++) {
                snores[man] = snoreOf(man);
            }
        }

        int heardAt(int cell) {
            return heardWithout(NOBODY, cell);
        }

        int heardWithout(int unheard, int cell) {
            int sum = 0;
            for (int man = 0; man < MEN; man++) {
                if (man != unheard && isThere(man)) {
                    sum += Math.max(0, snores[man] - distance(tents[man], cell));
                }
            }
            return sum;
        }

        int heardByOthers(int man, int cell) {
            int snore = isManNumber(man) ? snores[man] : 0;
            int sum = 0;
            for (int other = 0; other < MEN; other++) {
                if (other != man && isThere(other)) {
                    sum += Math.max(0, snore - distance(cell, tents[other]));
                }
            }
            return sum;
        }

        /** Twice, as the half is not cut; a man with himself is alone. */
        int twiceShare(int man, int mate) {
            if (man == mate) {
                return 2 * goldIn(knownTo(man));
            }
            return goldIn(knownTo(man) | knownTo(mate));
        }

        /** The least reason why an act can not be, or that it can. */
        int reasonAgainst(int man, int deed) {
            if (deed == NIGHT) {
                return ALLOWED;
            }
            if (!isThere(man)) {
                return NO_SUCH_MAN;
            }
            int tent = tentOf(man);
            if (stepFrom(tent, deed) == NONE) {
                return LEAVES_GROUND;
            }
            if (deed == DIG && isKnownTo(man, tent)) {
                return KNOWN_ALREADY;
            }
            if (deed == CLAIM && claimerOf(tent) != NOBODY) {
                return CLAIMED_ALREADY;
            }
            return ALLOWED;
        }

        /** Only for an act against which there is no reason. */
        void perform(int man, int deed) {
            if (deed == NIGHT) {
                passNight();
                return;
            }
            if (!isManNumber(man)) {
                return;
            }
            tents[man] = stepFrom(tents[man], deed);
            switch (deed) {
                case DIG:
                    setKnown(man, tents[man], true);
                    break;
                case CLAIM:
                    setClaimer(tents[man], man);
                    break;
                case CATCH_COLD:
                    withCold ^= 1 << man;
                    break;
                case WHISTLE:
                    whistling ^= 1 << man;
                    break;
                default:
                    break;
            }
        }

        /** The cell to which a deed leads: NONE beyond the ground, the same for a deed that is no step. */
        private static int stepFrom(int cell, int deed) {
            switch (deed) {
                case NORTH:
                    return rowOf(cell) < SIDE - 1 ? cell + SIDE : NONE;
                case EAST:
                    return columnOf(cell) < SIDE - 1 ? cell + 1 : NONE;
                case SOUTH:
                    return rowOf(cell) > 0 ? cell - SIDE : NONE;
                case WEST:
                    return columnOf(cell) > 0 ? cell - 1 : NONE;
                default:
                    return cell;
            }
        }

        private void passNight() {
            for (int man = 0; man < MEN; man++) {
                int gain = goldIn(cellsClaimedBy(man) & known[man]);
                int tenth = gain / 10;
                womans += tenth;
                salts[man] = Math.min(MOST_SALT, salts[man] + gain - tenth);
            }
        }
    }

    /** The signs of weeks, as they were said. */
    private static final class Pad {
        private final int[] signs;
        private int count;

        Pad() {
            signs = new int[MOST_SIGNS];
        }

        int size() {
            return count;
        }

        void clear() {
            count = 0;
        }

        boolean add(int sign) {
            if (count < 0 || count >= signs.length) {
                return false;
            }
            signs[count] = sign;
            count++;
            return true;
        }

        int signAt(int place) {
            return place >= 0 && place < count && place < signs.length ? signs[place] : 0;
        }

        int firstFault() {
            boolean manNamed = false;
            for (int place = 0; place < count; place++) {
                int sign = signAt(place);
                boolean fits = manNamed ? isDeedOfMan(sign) : isNight(sign) || isManNumber(manBy(sign));
                if (!fits) {
                    return place;
                }
                manNamed = !manNamed && !isNight(sign);
            }
            return manNamed ? count : NONE;
        }

        static boolean isNight(int sign) {
            return sign == '.';
        }

        static int manBy(int sign) {
            return sign - 'A';
        }

        static int deedBy(int sign) {
            for (int deed = 0; deed < DEED_SIGNS.length; deed++) {
                if (DEED_SIGNS[deed] == sign) {
                    return deed;
                }
            }
            return NONE;
        }

        private static boolean isDeedOfMan(int sign) {
            return !isNight(sign) && deedBy(sign) != NONE;
        }
    }

    /** How the pad's acts go, up to the first that can not be. */
    private static final class Week {
        private int acts;
        private int bad;
        private int reason;
        private int firstEmpty;
        private int empty;

        /** Only for a pad without a fault. */
        void play(Pad pad, Camp camp) {
            acts = 0;
            bad = NONE;
            reason = NONE;
            firstEmpty = NONE;
            empty = 0;
            int place = 0;
            while (place < pad.size() && bad == NONE) {
                int sign = pad.signAt(place);
                if (Pad.isNight(sign)) {
                    act(camp, NOBODY, NIGHT);
                    place += 1;
                } else {
                    act(camp, Pad.manBy(sign), Pad.deedBy(pad.signAt(place + 1)));
                    place += 2;
                }
            }
        }

        private void act(Camp camp, int man, int deed) {
            int against = camp.reasonAgainst(man, deed);
            if (against != ALLOWED) {
                bad = acts;
                reason = against;
                return;
            }
            if (deed == CLAIM && camp.goldOf(camp.tentOf(man)) == 0) {
                if (firstEmpty == NONE) {
                    firstEmpty = acts;
                }
                empty++;
            }
            camp.perform(man, deed);
            acts++;
        }

        int countActs() {
            return acts;
        }

        int badAct() {
            return bad;
        }

        int badReason() {
            return reason;
        }

        int firstEmptyClaim() {
            return firstEmpty;
        }

        int countEmptyClaims() {
            return empty;
        }
    }

    /** What men say of cells. */
    private static final class Tales {
        private final int[] tellers;
        private final int[] cells;
        /** By the places of the tales, as bits. */
        private int toldGolden;
        private int count;

        Tales() {
            tellers = new int[MOST_TALES];
            cells = new int[MOST_TALES];
        }

        void copyFrom(Tales other) {
            System.arraycopy(other.tellers, 0, tellers, 0, MOST_TALES);
            System.arraycopy(other.cells, 0, cells, 0, MOST_TALES);
            toldGolden = other.toldGolden;
            count = other.count;
        }

        int size() {
            return count;
        }

        void clear() {
            count = 0;
            toldGolden = 0;
        }

        boolean add(int man, int cell, boolean isGold) {
            if (count < 0 || count >= MOST_TALES) {
                return false;
            }
            tellers[count] = man;
            cells[count] = cell;
            if (isGold) {
                toldGolden |= 1 << count;
            }
            count++;
            return true;
        }

        /** As bits: the fewest, the least of these; NONE. */
        int fewestLiars() {
            int fewest = NONE;
            for (int liars = 0; liars < 1 << MEN; liars++) {
                boolean fewer = fewest == NONE || Integer.bitCount(liars) < Integer.bitCount(fewest);
                if (fewer && holdTogether(liars)) {
                    fewest = liars;
                }
            }
            return fewest;
        }

        private boolean holdTogether(int liars) {
            for (int i = 0; i < count && i < MOST_TALES; i++) {
                for (int j = 0; j < i; j++) {
                    if (cells[i] == cells[j] && isGoldBy(i, liars) != isGoldBy(j, liars)) {
                        return false;
                    }
                }
            }
            return true;
        }

        private boolean isGoldBy(int i, int liars) {
            boolean saidGold = (toldGolden >> i & 1) == 1;
            boolean lied = i >= 0 && i < MOST_TALES && hasBit(liars, tellers[i]);
            return saidGold != lied;
        }
    }

    /**
     * What is known of the lode. The lodes that fit are one set of bits, for which the sights themselves need not be
     * kept: each sight but takes from it.
     */
    private static final class Sights {
        private static final int LODES = 46, FIRST_COLUMN = 8, MIDDLE_RISING = 23, FIRST_FALLING = 31;
        private static final long ALL = (1L << LODES) - 1;

        private long fitting;
        private int count;

        Sights() {
            fitting = ALL;
        }

        void copyFrom(Sights other) {
            fitting = other.fitting;
            count = other.count;
        }

        int size() {
            return count;
        }

        void clear() {
            fitting = ALL;
            count = 0;
        }

        boolean add(int cell, boolean on) {
            if (count >= MOST_SIGHTS) {
                return false;
            }
            fitting &= on ? lodesThrough(cell) : ~lodesThrough(cell);
            count++;
            return true;
        }

        int countFitting() {
            return Long.bitCount(fitting);
        }

        int countThrough(int cell) {
            return Long.bitCount(fitting & lodesThrough(cell));
        }

        /** The i-th that fits, rising; NONE. */
        int fittingAt(int i) {
            int before = 0;
            for (int lode = 0; lode < LODES; lode++) {
                if ((fitting >>> lode & 1) == 1) {
                    if (before == i) {
                        return lode;
                    }
                    before++;
                }
            }
            return NONE;
        }

        private static long lodesThrough(int cell) {
            int x = columnOf(cell);
            int y = rowOf(cell);
            return 1L << y | 1L << FIRST_COLUMN + x | 1L << MIDDLE_RISING + x - y | 1L << FIRST_FALLING + x + y;
        }
    }
}
