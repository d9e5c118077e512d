/** What a year draws, once more: seeds that draw told acts, and which acts are nights. */
final class Draws {
    private Draws() {
    }

    /** The least seed by which these acts are drawn first. */
    static int seedOf(String acts) {
        for (int seed = 0; seed <= 9999; seed++) {
            if (drawn(seed, acts)) {
                return seed;
            }
        }
        throw new IllegalStateException("no seed draws " + acts);
    }

    /** The least seed by which the first act is a night, whoever of these men was drawn. */
    static int seedOfNightOf(int man) {
        for (int seed = 0; seed <= 9999; seed++) {
            int x = drawnAt(seed, 1);
            if (x % 6 == man && isNight(x)) {
                return seed;
            }
        }
        throw new IllegalStateException("no seed draws a night of " + man);
    }

    /** The least seed by which the act of this number, from 1 on, is a night. */
    static int seedOfNightAt(int number) {
        for (int seed = 0; seed <= 9999; seed++) {
            if (isNight(drawnAt(seed, number))) {
                return seed;
            }
        }
        throw new IllegalStateException("no seed draws a night at " + number);
    }

    static boolean isClaimFirst(int seed) {
        return drawnAt(seed, 1) / 6 % 8 == 5;
    }

    static int nightsOf(int seed, int acts) {
        int nights = 0;
        for (int act = 1; act <= acts; act++) {
            nights += isNight(drawnAt(seed, act)) ? 1 : 0;
        }
        return nights;
    }

    private static int drawnAt(int seed, int number) {
        long x = seed;
        for (int act = 0; act < number; act++) {
            x = (75 * x + 74) % 65537;
        }
        return (int) x;
    }

    private static boolean isNight(int x) {
        return x / 6 % 8 == 6;
    }

    private static boolean drawn(int seed, String acts) {
        int place = 0;
        int number = 0;
        while (place < acts.length()) {
            number++;
            int x = drawnAt(seed, number);
            char deed = "neswdc.*".charAt(x / 6 % 8);
            if (acts.charAt(place) == '.') {
                if (deed != '.') {
                    return false;
                }
                place += 1;
            } else {
                if (acts.charAt(place) - 'A' != x % 6 || acts.charAt(place + 1) != deed) {
                    return false;
                }
                place += 2;
            }
        }
        return true;
    }
}
