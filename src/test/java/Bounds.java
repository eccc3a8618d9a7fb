/** What the tests of boundary cases share: a busy gearbox, and all that a call may leave as it is. */
final class Bounds {
    /** Makes the same gearbox each time. */
    interface Made {
        GearHolds make();
    }

    interface Call {
        int on(GearHolds x);
    }

    /** A call of which one number goes from its least to its greatest. */
    interface CallWith {
        int on(GearHolds x, int v);
    }

    private static final int BAD = -2;
    /** How many values the digest takes up, told(0) the first of them: 5, 2, 35, 20 and 13. */
    private static final int DIGESTED = 75;

    private Bounds() {
    }

    /**
     * Six GEARS, GEAR 7 not THERE; IN is 1, HOLD 10, LAST UP 2, FILL of CLUTCH 1 is 7 and of 2 is 9;
     * five STATES, a CAUSE, one BAD and one NO; THE TEXT tells three ORDERS that can be done.
     */
    static GearHolds busy() {
        GearHolds x = Due.six();
        x.trues(2, 12);
        x.trues(1, 4);
        x.drives(0, 1);
        x.drives(300, 1);
        x.drives(0, 1);
        Due.reads(x, "r1;g7 3;");
        Due.text(x, "s-1;v300 12;g7 16;");
        x.of(0, 0);
        x.puts(7);
        return x;
    }

    /** The digest without how often refused and how many STATES. */
    private static long held(GearHolds x) {
        return x.digest() - x.told(0) * weight(0) - x.told(1) * weight(1) - x.told(2) * weight(2)
                - x.told(4) * weight(4);
    }

    private static long weight(int place) {
        long weight = 1;
        for (int i = place + 1; i < DIGESTED; i++) {
            weight *= 31;
        }
        return weight;
    }

    /** All but how often refused is as it is in the other one. */
    static void alike(String what, GearHolds due, GearHolds got) {
        seenAlike(what, due, got);
        for (int i = 1; i <= 6; i++) {
            Due.is(what + ": back() " + i, due.back(), got.back());
            seenAlike(what + ", behind back() " + i, due, got);
        }
        // What bytes THE TEXT has shows only by what is read of it.
        Due.is(what + ": reads()", due.reads(), got.reads());
        seenAlike(what + ", behind reads()", due, got);
    }

    private static void seenAlike(String what, GearHolds due, GearHolds got) {
        Due.is(what + ": bytes of THE TEXT", due.told(3), got.told(3));
        Due.is(what + ": STATES", due.told(4), got.told(4));
        Due.is(what + ": all that is held", held(due), held(got));
    }

    private static void countsAlike(String what, GearHolds due, GearHolds got, int kind) {
        for (int i = 0; i <= 2; i++) {
            Due.is(what + ": told(" + i + ")", due.told(i) + (i == BAD - kind ? 1 : 0), got.told(i));
        }
    }

    /** A call is refused: that is counted, and nothing else changes. */
    static void refused(String what, int kind, Made made, Call call) {
        GearHolds due = made.make();
        GearHolds got = made.make();
        Due.is(what, kind, call.on(got));
        countsAlike(what, due, got, kind);
        alike(what, due, got);
    }

    /** A call is answered: nothing is counted, and nothing changes. */
    static void asked(String what, int answer, Made made, Call call) {
        GearHolds due = made.make();
        GearHolds got = made.make();
        Due.is(what, answer, call.on(got));
        countsAlike(what, due, got, 0);
        alike(what, due, got);
    }

    /** A call told S is done: it leaves one STATE, to go back to all that was. */
    static void left(String what, int answer, Made made, Call call) {
        GearHolds due = made.make();
        GearHolds got = made.make();
        Due.is(what, answer, call.on(got));
        countsAlike(what, due, got, 0);
        Due.is(what + ": STATES", Math.min(5, due.told(4) + 1), got.told(4));
        Due.is(what + ": STATES behind back()", got.told(4) - 1, got.back());
        Due.is(what + ": all is as it was", held(due), held(got));
    }

    /** The least and the greatest value are as told; the ones just outside and the farthest are BAD. */
    static void within(String what, int least, int greatest, Made made, CallWith call) {
        asTold(what, least, made, call);
        asTold(what, greatest, made, call);
        outside(what, least, greatest, made, call);
    }

    private static void asTold(String what, int v, Made made, CallWith call) {
        GearHolds x = made.make();
        int bad = x.told(0);
        Due.is(what + ", " + v + " is not BAD", 1, call.on(x, v) == BAD ? 0 : 1);
        Due.is(what + ", " + v + ": told(0)", bad, x.told(0));
    }

    static void outside(String what, int least, int greatest, Made made, CallWith call) {
        int[] wrong = {least - 1, greatest + 1, Integer.MIN_VALUE, Integer.MAX_VALUE};
        for (int v : wrong) {
            refused(what + ", " + v, BAD, made, x -> call.on(x, v));
        }
    }
}
