/** What the tests share: a count of wrong answers, and THE TEXT typed at one go. */
final class Due {
    private static int wrong = 0;
    private static int asked = 0;

    private Due() {
    }

    static void is(String what, long due, long got) {
        asked++;
        if (due != got) {
            wrong++;
            System.out.println(what + " answered " + got + ", due is " + due);
        }
    }

    static void end() {
        System.out.println(asked + " answers, " + wrong + " wrong");
        if (wrong != 0) {
            System.exit(1);
        }
    }

    /** Types a text behind an emptied one. */
    static void text(GearHolds x, String text) {
        x.clear();
        for (int i = 0; i < text.length(); i++) {
            is("type of '" + text + "' at " + i, i + 1, x.type(text.charAt(i)));
        }
    }

    static int reads(GearHolds x, String text) {
        text(x, text);
        return x.reads();
    }

    /** Six GEARS of two CLUTCHES each out of four: many are SIMPLE. */
    static GearHolds six() {
        GearHolds x = new GearHolds();
        int[] sets = {3, 5, 9, 6, 10, 12};
        for (int g = 1; g <= sets.length; g++) {
            x.gear(g, sets[g - 1]);
        }
        return x;
    }

    /** GEARS 1 and 2 alone, SIMPLE: COMING up is 2, COMING down is 1. */
    static GearHolds two() {
        GearHolds x = new GearHolds();
        x.gear(1, 3);
        x.gear(2, 5);
        return x;
    }

    /** How the two kinds of refusal and the STATES stand, to see what one call counts. */
    static void counts(String what, GearHolds x, int bad, int no, int full, int states) {
        is(what + ": BAD", bad, x.told(0));
        is(what + ": NO", no, x.told(1));
        is(what + ": FULL", full, x.told(2));
        is(what + ": STATES", states, x.told(4));
    }
}
