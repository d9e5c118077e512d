/** Counts the answers that are not as due, tells each, and ends the test. */
final class Due {
    private static int wrong = 0;
    private static int asked = 0;

    private Due() {
    }

    static void due(String call, long got, long want) {
        asked++;
        if (got != want) {
            wrong++;
            System.out.println(call + " answered " + got + ", due is " + want);
        }
    }

    static int wrong() {
        return wrong;
    }

    static int asked() {
        return asked;
    }

    static void end() {
        System.out.println(asked + " answers, " + wrong + " not as due");
        if (wrong != 0) {
            System.exit(1);
        }
    }

    /** Says the signs of a text, one after the other. */
    static void sayAll(SnoresGold camp, String text) {
        for (int i = 0; i < text.length(); i++) {
            camp.say(text.charAt(i));
        }
    }

    /** Puts another text on the pad. */
    static void write(SnoresGold camp, String text) {
        camp.wipe();
        sayAll(camp, text);
    }
}
