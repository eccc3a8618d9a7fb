/**
 * The boundary cases of promises 1 to 20: a test for each sentence that names one; the remark ahead
 * of a test tells the promise and its words.
 */
public final class CallBoundsTest {
    private static final int NONE = -1, BAD = -2, NO = -3, NO_WAY = -5;
    private static final int MIN = Integer.MIN_VALUE, MAX = Integer.MAX_VALUE;

    public static void main(String[] args) {
        newObjects();
        gears();
        clutches();
        speeds();
        rules();
        questionsOfGears();
        questionsOfShifts();
        driving();
        Due.end();
    }

    private static void newObjects() {
        aNewObjectHasNoGears();
        aNewObjectHasRefusedNothing();
        aNewObjectIsItsOwn();
    }

    private static void gears() {
        gearOfTheFirstAndTheLast();
        gearWithTheLeastAndTheGreatestSet();
        gearAnswersWhatItWas();
        gearLeavesAState();
        gearThatAnotherHas();
        gearThatItHasItself();
        gearThatAGearNotFitHas();
        gearZeroIsFree();
        gearIsBadAheadOfNo();
    }

    private static void clutches() {
        failsOfTheFirstAndTheLast();
        failsWithTheLeastAndTheGreatest();
        failsLeavesAState();
        truesOfTheFirstAndTheLast();
        truesWithTheLeastAndTheGreatest();
        truesLeavesAState();
    }

    private static void speeds() {
        upOfTheFirstAndTheLast();
        upWithTheLeastAndTheGreatest();
        upLeavesAState();
        downOfTheFirstAndTheLast();
        downWithTheLeastAndTheGreatest();
        downLeavesAState();
    }

    private static void rules() {
        slopeWithTheLeastAndTheGreatest();
        slopeAnswersWhatItWasAndThree();
        driverWithTheLeastAndTheGreatest();
        setsOfRampAndLimitAlone();
        setsRampWithTheLeastAndTheGreatest();
        setsLimitWithTheLeastAndTheGreatest();
        rulesLeaveAState();
    }

    private static void questionsOfGears() {
        ofTheFirstAndTheLast();
        ofEachWhat();
        ofHowManySimpleAtMost();
        clutchTheFirstAndTheLast();
        clutchEachWhat();
        clutchOfNoneAndOfAll();
        tiesOfTheLeastAndTheGreatest();
        tiesOfTwoOrMore();
    }

    private static void questionsOfShifts() {
        simpleOfTheFirstAndTheLast();
        simpleAlike();
        simpleEachWhat();
        simpleNoneIfNotSimple();
        wayOfTheFirstAndTheLast();
        wayAlike();
        wayBelowNone();
        wayBehindItsLast();
        wayWithoutOne();
        wayOfOneNotFit();
        wayIsBadAheadOfNo();
        overOfTheFirstAndTheLast();
        overAlike();
        overAtTheFirstAndTheLastTick();
        overOfOnesNotSimple();
        overIsBadAheadOfNo();
        overAnswersFromZeroToTwoThousand();
        worstOfTheFirstAndTheLast();
        worstAlike();
        worstEachWhat();
        worstOfOnesNotSimple();
        worstIsBadAheadOfNo();
    }

    private static void driving() {
        wantAtTheLeastAndTheGreatestSpeed();
        wantChangesNothing();
        drivesAtTheLeastAndTheGreatestSpeed();
        drivesOneTickAndSixty();
        drivesLeavesAState();
        putsTheFirstAndTheLast();
        putsNeutral();
        putsOneNotFit();
        putsLeavesAState();
        stateEachWhat();
        stateOfFitGears();
    }

    /** GEARS 1 and 7 alone, SIMPLE: COMING up is CLUTCH 4, COMING down is CLUTCH 0. */
    private static GearHolds ends() {
        GearHolds x = new GearHolds();
        x.gear(1, 3);
        x.gear(7, 18);
        return x;
    }

    /** Seven GEARS, each SIMPLE to GEAR 1. */
    private static GearHolds star() {
        GearHolds x = new GearHolds();
        int[] sets = {3, 5, 9, 17, 6, 10, 18};
        for (int g = 1; g <= 7; g++) {
            x.gear(g, sets[g - 1]);
        }
        return x;
    }

    // ---- promise 1

    /** Promise 1: "no GEARS". */
    private static void aNewObjectHasNoGears() {
        GearHolds x = new GearHolds();
        for (int g = 1; g <= 7; g++) {
            Due.is("p1: SET of " + g, 0, x.of(g, 0));
            Due.is("p1: FIT of " + g, 0, x.of(g, 1));
        }
        for (int c = 0; c <= 4; c++) {
            Due.is("p1: GEARS of CLUTCH " + c, 0, x.clutch(c, 3));
        }
        Due.is("p1: FIT GEARS", 0, x.state(12));
        Due.is("p1: ties of all", 0, x.ties(31));
        Due.is("p1: WANT", 0, x.want(300));
    }

    /** Promise 1: "As told" (Terms: nothing refused, no STATES, THE TEXT empty, no CAUSE yet). */
    private static void aNewObjectHasRefusedNothing() {
        GearHolds x = new GearHolds();
        Due.counts("p1", x, 0, 0, 0, 0);
        Due.is("p1: bytes", 0, x.told(3));
        Due.is("p1: KIND", 0, x.why(0));
        Due.is("p1: ORDER", NONE, x.why(1));
    }

    /** Promise 1: a new object is as told, whatever was done with another one. */
    private static void aNewObjectIsItsOwn() {
        long due = new GearHolds().digest();
        Bounds.busy();
        Due.is("p1: digest of a new object", due, new GearHolds().digest());
    }

    // ---- promise 2

    /** Promise 2: "of a GEAR", Terms: "GEARS 1 .. 7". */
    private static void gearOfTheFirstAndTheLast() {
        Bounds.within("p2: gear(g, 31)", 1, 7, Bounds::busy, (x, g) -> x.gear(g, 31));
        GearHolds x = new GearHolds();
        x.gear(1, 1);
        x.gear(7, 16);
        Due.is("p2: SET of the first", 1, x.of(1, 0));
        Due.is("p2: SET of the last", 16, x.of(7, 0));
    }

    /** Promise 2: "becomes v (0 .. 31". */
    private static void gearWithTheLeastAndTheGreatestSet() {
        Bounds.within("p2: gear(2, v)", 0, 31, Bounds::busy, (x, v) -> x.gear(2, v));
        Bounds.within("p2: gear(7, v)", 0, 31, Bounds::busy, (x, v) -> x.gear(7, v));
    }

    /** Promise 2: "what it was", the least and the greatest. */
    private static void gearAnswersWhatItWas() {
        GearHolds x = new GearHolds();
        Due.is("p2: gear, it was not THERE", 0, x.gear(7, 31));
        Due.is("p2: gear, it was the greatest", 31, x.gear(7, 0));
        Due.is("p2: gear, it was not THERE again", 0, x.gear(7, 1));
    }

    /** Promise 2: "S", Terms: "also if nothing changes by it". */
    private static void gearLeavesAState() {
        Bounds.left("p2: gear, another SET", 0, CallBoundsTest::ends, x -> x.gear(2, 5));
        Bounds.left("p2: gear, the same SET", 3, CallBoundsTest::ends, x -> x.gear(1, 3));
        Bounds.left("p2: gear, not THERE before and behind", 0, CallBoundsTest::ends, x -> x.gear(2, 0));
    }

    /** Promise 2: "NO: another GEAR has it". */
    private static void gearThatAnotherHas() {
        Bounds.refused("p2: gear, the last has it", NO, CallBoundsTest::ends, x -> x.gear(1, 18));
        Bounds.refused("p2: gear, the first has it", NO, CallBoundsTest::ends, x -> x.gear(7, 3));
        Bounds.refused("p2: gear of one not THERE", NO, Bounds::busy, x -> x.gear(7, 12));
        Bounds.refused("p2: gear of the one that is in", NO, Bounds::busy, x -> x.gear(1, 5));
    }

    /** Promise 2: "another GEAR": its own SET is free to it. */
    private static void gearThatItHasItself() {
        GearHolds x = ends();
        Due.is("p2: gear of the first, its own", 3, x.gear(1, 3));
        Due.is("p2: gear of the last, its own", 18, x.gear(7, 18));
        Due.is("p2: NO", 0, x.told(1));
    }

    /** Promise 2: "another GEAR has it", Terms: "no two that are THERE the same", FIT or not. */
    private static void gearThatAGearNotFitHas() {
        GearHolds x = ends();
        x.fails(4, 1);
        Due.is("p2: FIT of the last", 0, x.of(7, 1));
        Due.is("p2: gear, one not FIT has it", NO, x.gear(2, 18));
        Due.is("p2: NO", 1, x.told(1));
    }

    /** Promise 2: "(but 0)": any number of GEARS may be not THERE. */
    private static void gearZeroIsFree() {
        GearHolds x = star();
        int[] sets = {3, 5, 9, 17, 6, 10, 18};
        for (int g = 7; g >= 1; g--) {
            Due.is("p2: gear(" + g + ", 0)", sets[g - 1], x.gear(g, 0));
        }
        Due.counts("p2: all not THERE", x, 0, 0, 0, 5);
    }

    /** Promise 2, Terms 2: "the first of: BAD ..; NO ..": a GEAR outside with a SET that one has. */
    private static void gearIsBadAheadOfNo() {
        Bounds.refused("p2: gear(0, 3)", BAD, CallBoundsTest::ends, x -> x.gear(0, 3));
        Bounds.refused("p2: gear(8, 3)", BAD, CallBoundsTest::ends, x -> x.gear(8, 3));
        Bounds.refused("p2: gear(0, 0)", BAD, CallBoundsTest::ends, x -> x.gear(0, 0));
        Bounds.refused("p2: gear(8, 32)", BAD, CallBoundsTest::ends, x -> x.gear(8, 32));
    }

    // ---- promises 3 and 4

    /** Promise 3: "of a CLUTCH", Terms: "CLUTCHES 0 .. 4". */
    private static void failsOfTheFirstAndTheLast() {
        Bounds.within("p3: fails(c, 1)", 0, 4, Bounds::busy, (x, c) -> x.fails(c, 1));
        GearHolds x = new GearHolds();
        x.fails(0, 1);
        x.fails(4, 2);
        int[] due = {1, 0, 0, 0, 2};
        for (int c = 0; c <= 4; c++) {
            Due.is("p3: STATE of CLUTCH " + c, due[c], x.clutch(c, 0));
        }
    }

    /** Promise 3: "becomes v: what it was", Terms: "0 SOUND .., 1 OPEN .., 2 SHUT". */
    private static void failsWithTheLeastAndTheGreatest() {
        Bounds.within("p3: fails(0, v)", 0, 2, Bounds::busy, (x, v) -> x.fails(0, v));
        Bounds.within("p3: fails(4, v)", 0, 2, Bounds::busy, (x, v) -> x.fails(4, v));
        GearHolds x = new GearHolds();
        Due.is("p3: fails, it was SOUND", 0, x.fails(4, 2));
        Due.is("p3: fails, it was SHUT", 2, x.fails(4, 1));
        Due.is("p3: fails, it was OPEN", 1, x.fails(4, 0));
    }

    /** Promise 3: "S", Terms: "also if nothing changes by it". */
    private static void failsLeavesAState() {
        Bounds.left("p3: fails", 0, CallBoundsTest::ends, x -> x.fails(4, 2));
        Bounds.left("p3: fails, the same", 0, CallBoundsTest::ends, x -> x.fails(0, 0));
    }

    /** Promise 4: "of a CLUTCH", Terms: "CLUTCHES 0 .. 4". */
    private static void truesOfTheFirstAndTheLast() {
        Bounds.within("p4: trues(c, 1)", 0, 4, Bounds::busy, (x, c) -> x.trues(c, 1));
        GearHolds x = new GearHolds();
        x.trues(0, 1);
        x.trues(4, 20);
        int[] due = {1, 8, 8, 8, 20};
        for (int c = 0; c <= 4; c++) {
            Due.is("p4: TRUE of CLUTCH " + c, due[c], x.clutch(c, 1));
            Due.is("p4: FILL of CLUTCH " + c, 8, x.clutch(c, 2));
        }
    }

    /** Promise 4: "becomes v: what it was", Terms: "(1 .. 20 each". */
    private static void truesWithTheLeastAndTheGreatest() {
        Bounds.within("p4: trues(0, v)", 1, 20, Bounds::busy, (x, v) -> x.trues(0, v));
        Bounds.within("p4: trues(4, v)", 1, 20, Bounds::busy, (x, v) -> x.trues(4, v));
        GearHolds x = new GearHolds();
        Due.is("p4: trues, it was as at first", 8, x.trues(4, 1));
        Due.is("p4: trues, it was the least", 1, x.trues(4, 20));
        Due.is("p4: trues, it was the greatest", 20, x.trues(4, 8));
    }

    /** Promise 4: "S", Terms: "also if nothing changes by it". */
    private static void truesLeavesAState() {
        Bounds.left("p4: trues", 8, CallBoundsTest::ends, x -> x.trues(4, 1));
        Bounds.left("p4: trues, the same", 8, CallBoundsTest::ends, x -> x.trues(4, 8));
    }

    // ---- promises 5 and 6

    /** Promise 5: "of a GEAR", Terms: "GEARS 1 .. 7". */
    private static void upOfTheFirstAndTheLast() {
        Bounds.within("p5: up(g, 0)", 1, 7, Bounds::busy, (x, g) -> x.up(g, 0));
        GearHolds x = new GearHolds();
        x.up(1, 299);
        x.up(7, 298);
        int[] due = {299, 40, 60, 80, 100, 120, 298};
        for (int g = 1; g <= 7; g++) {
            Due.is("p5: UP of " + g, due[g - 1], x.of(g, 2));
            Due.is("p5: DOWN of " + g, 20 * g - 15, x.of(g, 3));
        }
    }

    /** Promise 5: "becomes v: what it was", Terms: "(0 .. 300"; a GEAR not THERE has one, too. */
    private static void upWithTheLeastAndTheGreatest() {
        Bounds.within("p5: up(1, v)", 0, 300, Bounds::busy, (x, v) -> x.up(1, v));
        Bounds.within("p5: up(7, v)", 0, 300, Bounds::busy, (x, v) -> x.up(7, v));
        GearHolds x = new GearHolds();
        Due.is("p5: up, it was as at first", 140, x.up(7, 0));
        Due.is("p5: up, it was the least", 0, x.up(7, 300));
        Due.is("p5: up, it was the greatest", 300, x.up(7, 1));
    }

    /** Promise 5: "S", Terms: "also if nothing changes by it". */
    private static void upLeavesAState() {
        Bounds.left("p5: up", 140, CallBoundsTest::ends, x -> x.up(7, 300));
        Bounds.left("p5: up, the same", 20, CallBoundsTest::ends, x -> x.up(1, 20));
    }

    /** Promise 6: "of a GEAR", Terms: "GEARS 1 .. 7". */
    private static void downOfTheFirstAndTheLast() {
        Bounds.within("p6: down(g, 0)", 1, 7, Bounds::busy, (x, g) -> x.down(g, 0));
        GearHolds x = new GearHolds();
        x.down(1, 299);
        x.down(7, 298);
        int[] due = {299, 25, 45, 65, 85, 105, 298};
        for (int g = 1; g <= 7; g++) {
            Due.is("p6: DOWN of " + g, due[g - 1], x.of(g, 3));
            Due.is("p6: UP of " + g, 20 * g, x.of(g, 2));
        }
    }

    /** Promise 6: "becomes v: what it was", Terms: "(0 .. 300"; a GEAR not THERE has one, too. */
    private static void downWithTheLeastAndTheGreatest() {
        Bounds.within("p6: down(1, v)", 0, 300, Bounds::busy, (x, v) -> x.down(1, v));
        Bounds.within("p6: down(7, v)", 0, 300, Bounds::busy, (x, v) -> x.down(7, v));
        GearHolds x = new GearHolds();
        Due.is("p6: down, it was as at first", 125, x.down(7, 0));
        Due.is("p6: down, it was the least", 0, x.down(7, 300));
        Due.is("p6: down, it was the greatest", 300, x.down(7, 1));
    }

    /** Promise 6: "S", Terms: "also if nothing changes by it". */
    private static void downLeavesAState() {
        Bounds.left("p6: down", 125, CallBoundsTest::ends, x -> x.down(7, 300));
        Bounds.left("p6: down, the same", 5, CallBoundsTest::ends, x -> x.down(1, 5));
    }

    // ---- promises 7 to 9

    /** Promise 7: "SLOPE becomes v", Terms: "SLOPE (-3 .. 3)". */
    private static void slopeWithTheLeastAndTheGreatest() {
        Bounds.within("p7: slope(v)", -3, 3, Bounds::busy, (x, v) -> x.slope(v));
        GearHolds x = new GearHolds();
        x.slope(-3);
        Due.is("p7: the least SLOPE", 0, x.state(8));
        x.slope(3);
        Due.is("p7: the greatest SLOPE", 6, x.state(8));
    }

    /** Promise 7: "what it was, and 3". */
    private static void slopeAnswersWhatItWasAndThree() {
        GearHolds x = new GearHolds();
        Due.is("p7: slope, it was 0", 3, x.slope(-3));
        Due.is("p7: slope, it was the least", 0, x.slope(3));
        Due.is("p7: slope, it was the greatest", 6, x.slope(-1));
        Due.is("p7: slope, it was -1", 2, x.slope(0));
    }

    /** Promise 8: "DRIVER becomes v: what it was", Terms: "DRIVER (0 .. 3)". */
    private static void driverWithTheLeastAndTheGreatest() {
        Bounds.within("p8: driver(v)", 0, 3, Bounds::busy, (x, v) -> x.driver(v));
        GearHolds x = new GearHolds();
        Due.is("p8: driver, it was 0", 0, x.driver(3));
        Due.is("p8: driver, it was the greatest", 3, x.driver(0));
        Due.is("p8: driver, it was the least", 0, x.driver(3));
        Due.is("p8: the greatest DRIVER", 3, x.state(9));
    }

    /** Promise 9: "RAMP (what 0), LIMIT (1)", no other. */
    private static void setsOfRampAndLimitAlone() {
        Bounds.within("p9: sets(what, 1)", 0, 1, Bounds::busy, (x, what) -> x.sets(what, 1));
        GearHolds x = new GearHolds();
        x.sets(0, 12);
        Due.is("p9: LIMIT stays", 100, x.state(11));
        x.sets(1, 999);
        Due.is("p9: RAMP stays", 12, x.state(10));
    }

    /** Promise 9: "RAMP .. becomes v: what it was", Terms: "RAMP R (1 .. 12". */
    private static void setsRampWithTheLeastAndTheGreatest() {
        Bounds.within("p9: sets(0, v)", 1, 12, Bounds::busy, (x, v) -> x.sets(0, v));
        GearHolds x = new GearHolds();
        Due.is("p9: RAMP was as at first", 5, x.sets(0, 1));
        Due.is("p9: RAMP was the least", 1, x.sets(0, 12));
        Due.is("p9: RAMP was the greatest", 12, x.sets(0, 5));
    }

    /** Promise 9: "LIMIT (1) becomes v: what it was", Terms: "LIMIT (0 .. 999". */
    private static void setsLimitWithTheLeastAndTheGreatest() {
        Bounds.within("p9: sets(1, v)", 0, 999, Bounds::busy, (x, v) -> x.sets(1, v));
        GearHolds x = new GearHolds();
        Due.is("p9: LIMIT was as at first", 100, x.sets(1, 0));
        Due.is("p9: LIMIT was the least", 0, x.sets(1, 999));
        Due.is("p9: LIMIT was the greatest", 999, x.sets(1, 100));
    }

    /** Promises 7, 8, 9: "S", Terms: "also if nothing changes by it". */
    private static void rulesLeaveAState() {
        Bounds.left("p7: slope", 3, CallBoundsTest::ends, x -> x.slope(-3));
        Bounds.left("p7: slope, the same", 3, CallBoundsTest::ends, x -> x.slope(0));
        Bounds.left("p8: driver", 0, CallBoundsTest::ends, x -> x.driver(3));
        Bounds.left("p8: driver, the same", 0, CallBoundsTest::ends, x -> x.driver(0));
        Bounds.left("p9: sets RAMP", 5, CallBoundsTest::ends, x -> x.sets(0, 12));
        Bounds.left("p9: sets RAMP, the same", 5, CallBoundsTest::ends, x -> x.sets(0, 5));
        Bounds.left("p9: sets LIMIT", 100, CallBoundsTest::ends, x -> x.sets(1, 0));
        Bounds.left("p9: sets LIMIT, the same", 100, CallBoundsTest::ends, x -> x.sets(1, 100));
    }

    // ---- promises 10 to 12

    /** Promise 10: "Of a GEAR", Terms: "GEARS 1 .. 7". */
    private static void ofTheFirstAndTheLast() {
        for (int what = 0; what <= 4; what++) {
            int asked = what;
            Bounds.within("p10: of(g, " + what + ")", 1, 7, Bounds::busy, (x, g) -> x.of(g, asked));
        }
    }

    /** Promise 10: "SET (what 0) .. SIMPLE (4). BAD", of the first and of the last GEAR. */
    private static void ofEachWhat() {
        int[] first = {3, 1, 20, 5, 1};
        int[] last = {18, 1, 140, 125, 1};
        for (int what = 0; what <= 4; what++) {
            int asked = what;
            Bounds.asked("p10: of(1, " + what + ")", first[what], CallBoundsTest::ends, x -> x.of(1, asked));
            Bounds.asked("p10: of(7, " + what + ")", last[what], CallBoundsTest::ends, x -> x.of(7, asked));
        }
        Bounds.outside("p10: of(1, what)", 0, 4, Bounds::busy, (x, what) -> x.of(1, what));
    }

    /** Promise 10: "to how many others it is SIMPLE": none, all six others, never itself. */
    private static void ofHowManySimpleAtMost() {
        GearHolds x = star();
        Due.is("p10: SIMPLE to all others", 6, x.of(1, 4));
        x.gear(1, 0);
        Due.is("p10: SIMPLE, not THERE", 0, x.of(1, 4));
        GearHolds y = new GearHolds();
        y.gear(7, 31);
        Due.is("p10: SIMPLE, being alone", 0, y.of(7, 4));
    }

    /** Promise 11: "Of a CLUTCH", Terms: "CLUTCHES 0 .. 4". */
    private static void clutchTheFirstAndTheLast() {
        for (int what = 0; what <= 3; what++) {
            int asked = what;
            Bounds.within("p11: clutch(c, " + what + ")", 0, 4, Bounds::busy, (x, c) -> x.clutch(c, asked));
        }
    }

    /** Promise 11: "STATE (what 0) .. of how many GEARS (3). BAD", of the first and the last CLUTCH. */
    private static void clutchEachWhat() {
        int[] first = {0, 8, 8, 1};
        int[] last = {0, 8, 8, 1};
        for (int what = 0; what <= 3; what++) {
            int asked = what;
            Bounds.asked("p11: clutch(0, " + what + ")", first[what], CallBoundsTest::ends,
                    x -> x.clutch(0, asked));
            Bounds.asked("p11: clutch(4, " + what + ")", last[what], CallBoundsTest::ends,
                    x -> x.clutch(4, asked));
        }
        Bounds.outside("p11: clutch(0, what)", 0, 3, Bounds::busy, (x, what) -> x.clutch(0, what));
    }

    /** Promise 11: "of how many GEARS that are THERE it is": none and all seven, FIT or not. */
    private static void clutchOfNoneAndOfAll() {
        GearHolds x = new GearHolds();
        for (int g = 1; g <= 7; g++) {
            x.gear(g, 16 + g);
        }
        x.fails(4, 1);
        Due.is("p11: GEARS of the last CLUTCH", 7, x.clutch(4, 3));
        Due.is("p11: GEARS of a CLUTCH of none", 0, x.clutch(3, 3));
        Due.is("p11: GEARS of the first CLUTCH", 4, x.clutch(0, 3));
        x.gear(7, 0);
        Due.is("p11: GEARS of the last CLUTCH, one less", 6, x.clutch(4, 3));
    }

    /** Promise 12: a set of CLUTCHES (0 .. 31). "BAD". */
    private static void tiesOfTheLeastAndTheGreatest() {
        Bounds.within("p12: ties(v)", 0, 31, Bounds::busy, (x, v) -> x.ties(v));
        Bounds.asked("p12: ties(0)", 0, Bounds::busy, x -> x.ties(0));
        Bounds.asked("p12: ties(31)", 1, Bounds::busy, x -> x.ties(31));
    }

    /** Promise 12: "Whether .. TIES", Terms: "if two GEARS or more .. have their SETS within it". */
    private static void tiesOfTwoOrMore() {
        GearHolds x = new GearHolds();
        Due.is("p12: ties, no GEARS", 0, x.ties(31));
        x.gear(7, 31);
        Due.is("p12: ties, one GEAR", 0, x.ties(31));
        x.gear(1, 16);
        Due.is("p12: ties, two GEARS", 1, x.ties(31));
        Due.is("p12: ties, one CLUTCH of a SET is not within", 0, x.ties(30));
        x.gear(2, 8);
        Due.is("p12: ties, three GEARS", 1, x.ties(31));
        Due.is("p12: ties, two SETS that are all of it", 1, x.ties(24));
        Due.is("p12: ties, of two SETS one", 0, x.ties(23));
    }

    // ---- promise 13

    /** Promise 13: "two GEARS", Terms: "GEARS 1 .. 7". */
    private static void simpleOfTheFirstAndTheLast() {
        for (int what = 0; what <= 2; what++) {
            int asked = what;
            Bounds.outside("p13: simple(g, 2, " + what + ")", 1, 7, Bounds::busy,
                    (x, g) -> x.simple(g, 2, asked));
            Bounds.outside("p13: simple(2, k, " + what + ")", 1, 7, Bounds::busy,
                    (x, k) -> x.simple(2, k, asked));
        }
        Bounds.asked("p13: simple(1, 7, 0)", 1, CallBoundsTest::ends, x -> x.simple(1, 7, 0));
        Bounds.asked("p13: simple(7, 1, 0)", 1, CallBoundsTest::ends, x -> x.simple(7, 1, 0));
    }

    /** Promise 13: "BAD: alike, too". */
    private static void simpleAlike() {
        for (int g = 1; g <= 7; g++) {
            int both = g;
            Bounds.refused("p13: simple, both " + g, BAD, Bounds::busy, x -> x.simple(both, both, 0));
        }
    }

    /** Promise 13: "(what 0 ..), COMING (1 ..), GOING (2 ..)"; the first and the last CLUTCH. */
    private static void simpleEachWhat() {
        Bounds.asked("p13: COMING up", 4, CallBoundsTest::ends, x -> x.simple(1, 7, 1));
        Bounds.asked("p13: GOING up", 0, CallBoundsTest::ends, x -> x.simple(1, 7, 2));
        Bounds.asked("p13: COMING down", 0, CallBoundsTest::ends, x -> x.simple(7, 1, 1));
        Bounds.asked("p13: GOING down", 4, CallBoundsTest::ends, x -> x.simple(7, 1, 2));
        Bounds.outside("p13: simple(1, 7, what)", 0, 2, CallBoundsTest::ends,
                (x, what) -> x.simple(1, 7, what));
    }

    /** Promise 13: "NONE: not SIMPLE", "NONE"; that is no refusal, also of GEARS not THERE. */
    private static void simpleNoneIfNotSimple() {
        int[] due = {0, NONE, NONE};
        for (int what = 0; what <= 2; what++) {
            int asked = what;
            Bounds.asked("p13: simple(1, 6, " + what + ")", due[what], Bounds::busy,
                    x -> x.simple(1, 6, asked));
            Bounds.asked("p13: simple(1, 7, " + what + "), not THERE", due[what], Bounds::busy,
                    x -> x.simple(1, 7, asked));
            Bounds.asked("p13: simple(1, 7, " + what + "), no GEARS", due[what], GearHolds::new,
                    x -> x.simple(1, 7, asked));
        }
    }

    // ---- promise 14

    /** Promise 14: "WAY from g to k", Terms: "GEARS 1 .. 7". */
    private static void wayOfTheFirstAndTheLast() {
        Bounds.outside("p14: way(g, 2, 0)", 1, 7, Bounds::busy, (x, g) -> x.way(g, 2, 0));
        Bounds.outside("p14: way(2, k, 0)", 1, 7, Bounds::busy, (x, k) -> x.way(2, k, 0));
        Bounds.asked("p14: way(1, 7, 0)", 7, CallBoundsTest::ends, x -> x.way(1, 7, 0));
        Bounds.asked("p14: way(7, 1, 0)", 1, CallBoundsTest::ends, x -> x.way(7, 1, 0));
    }

    /** Promise 14: "BAD: alike, too", also where that one GEAR is not FIT. */
    private static void wayAlike() {
        for (int g = 1; g <= 7; g++) {
            int both = g;
            Bounds.refused("p14: way, both " + g, BAD, Bounds::busy, x -> x.way(both, both, NONE));
        }
    }

    /** Promise 14: "how many GEARS (i NONE)", "i below -1, too". */
    private static void wayBelowNone() {
        Bounds.asked("p14: way(1, 6, -1)", 2, Bounds::busy, x -> x.way(1, 6, -1));
        Bounds.refused("p14: way(1, 6, -2)", BAD, Bounds::busy, x -> x.way(1, 6, -2));
        Bounds.refused("p14: way(1, 6, least)", BAD, Bounds::busy, x -> x.way(1, 6, MIN));
    }

    /** Promise 14: "the i-th (0 on); -5: not so many": no refusal. */
    private static void wayBehindItsLast() {
        Bounds.asked("p14: way, the first", 2, Bounds::busy, x -> x.way(1, 6, 0));
        Bounds.asked("p14: way, the last", 6, Bounds::busy, x -> x.way(1, 6, 1));
        Bounds.asked("p14: way, behind the last", NO_WAY, Bounds::busy, x -> x.way(1, 6, 2));
        Bounds.asked("p14: way, the seventh", NO_WAY, Bounds::busy, x -> x.way(1, 6, 7));
        Bounds.asked("p14: way, far behind the last", NO_WAY, Bounds::busy, x -> x.way(1, 6, MAX));
    }

    /** Promise 14: "-5: .. there is none", how many there are being asked, too: no refusal. */
    private static void wayWithoutOne() {
        Bounds.Made apart = () -> apart();
        Bounds.asked("p14: no way, how many", NO_WAY, apart, x -> x.way(1, 7, NONE));
        Bounds.asked("p14: no way, the first", NO_WAY, apart, x -> x.way(1, 7, 0));
        Bounds.asked("p14: no way, far behind", NO_WAY, apart, x -> x.way(7, 1, MAX));
    }

    private static GearHolds apart() {
        GearHolds x = new GearHolds();
        x.gear(1, 3);
        x.gear(7, 28);
        return x;
    }

    /** Promise 14: "NO: one is not FIT": the one, the other one, both; not THERE or OPEN or SHUT. */
    private static void wayOfOneNotFit() {
        Bounds.refused("p14: way(1, 7, -1), not THERE", NO, Bounds::busy, x -> x.way(1, 7, NONE));
        Bounds.refused("p14: way(7, 1, 0), not THERE", NO, Bounds::busy, x -> x.way(7, 1, 0));
        Bounds.refused("p14: way(1, 7, 0), no GEARS", NO, GearHolds::new, x -> x.way(1, 7, 0));
        Bounds.Made open = () -> failed(4, 1);
        Bounds.refused("p14: way(1, 7, 0), OPEN", NO, open, x -> x.way(1, 7, 0));
        Bounds.refused("p14: way(7, 1, -1), OPEN", NO, open, x -> x.way(7, 1, NONE));
        Bounds.Made shut = () -> failed(0, 2);
        Bounds.refused("p14: way(1, 7, 0), SHUT", NO, shut, x -> x.way(1, 7, 0));
        Bounds.refused("p14: way(7, 1, 0), SHUT", NO, shut, x -> x.way(7, 1, 0));
        Bounds.refused("p14: way(1, 7, far), not FIT", NO, shut, x -> x.way(1, 7, MAX));
    }

    private static GearHolds failed(int c, int v) {
        GearHolds x = ends();
        x.fails(c, v);
        return x;
    }

    /** Promise 14, Terms 2: "the first of: BAD ..; NO ..": i below -1, or alike, of GEARS not FIT. */
    private static void wayIsBadAheadOfNo() {
        Bounds.refused("p14: way(1, 7, -2), not FIT", BAD, Bounds::busy, x -> x.way(1, 7, -2));
        Bounds.refused("p14: way(7, 7, 0), not FIT", BAD, Bounds::busy, x -> x.way(7, 7, 0));
        Bounds.refused("p14: way(7, 8, 0), not FIT", BAD, Bounds::busy, x -> x.way(7, 8, 0));
        Bounds.refused("p14: way(0, 7, 0), not FIT", BAD, Bounds::busy, x -> x.way(0, 7, 0));
    }

    // ---- promises 15 and 16

    /** Promise 15: "the SHIFT from g to k", Terms: "GEARS 1 .. 7". */
    private static void overOfTheFirstAndTheLast() {
        Bounds.outside("p15: over(g, 2, 0)", 1, 7, Bounds::busy, (x, g) -> x.over(g, 2, 0));
        Bounds.outside("p15: over(2, k, 0)", 1, 7, Bounds::busy, (x, k) -> x.over(2, k, 0));
        Bounds.asked("p15: over(1, 7, 8)", 1000, CallBoundsTest::ends, x -> x.over(1, 7, 8));
        Bounds.asked("p15: over(7, 1, 8)", 1000, CallBoundsTest::ends, x -> x.over(7, 1, 8));
    }

    /** Promise 15: "BAD: alike, too". */
    private static void overAlike() {
        for (int g = 1; g <= 7; g++) {
            int both = g;
            Bounds.refused("p15: over, both " + g, BAD, Bounds::busy, x -> x.over(both, both, 8));
        }
    }

    /** Promise 15: "at a tick t (0 .. 40)". */
    private static void overAtTheFirstAndTheLastTick() {
        Bounds.within("p15: over(1, 2, t)", 0, 40, Bounds::busy, (x, t) -> x.over(1, 2, t));
        Bounds.asked("p15: over(1, 2, 0)", 1000, Bounds::busy, x -> x.over(1, 2, 0));
        Bounds.asked("p15: over(1, 2, 40)", 1000, Bounds::busy, x -> x.over(1, 2, 40));
    }

    /** Promise 15: "NO: not SIMPLE": FIT both, or one of them not THERE or not FIT. */
    private static void overOfOnesNotSimple() {
        Bounds.refused("p15: over(1, 6, 0), two swap", NO, Bounds::busy, x -> x.over(1, 6, 0));
        Bounds.refused("p15: over(1, 7, 40), not THERE", NO, Bounds::busy, x -> x.over(1, 7, 40));
        Bounds.refused("p15: over(1, 7, 8), no GEARS", NO, GearHolds::new, x -> x.over(1, 7, 8));
        Bounds.refused("p15: over(1, 7, 8), OPEN", NO, () -> failed(4, 1), x -> x.over(1, 7, 8));
        Bounds.refused("p15: over(1, 7, 8), SHUT", NO, () -> failed(4, 2), x -> x.over(1, 7, 8));
    }

    /**
     * Promise 15, Terms 2: "the first of: BAD ..; NO ..": a tick outside, or alike, of GEARS not
     * SIMPLE.
     */
    private static void overIsBadAheadOfNo() {
        Bounds.refused("p15: over(1, 6, 41)", BAD, Bounds::busy, x -> x.over(1, 6, 41));
        Bounds.refused("p15: over(1, 6, -1)", BAD, Bounds::busy, x -> x.over(1, 6, -1));
        Bounds.refused("p15: over(7, 7, 0)", BAD, Bounds::busy, x -> x.over(7, 7, 0));
    }

    /** Promise 15: "OVER .., and 1000": the least and the greatest OVER. */
    private static void overAnswersFromZeroToTwoThousand() {
        GearHolds x = ends();
        x.sets(0, 1);
        x.trues(4, 20);
        x.trues(0, 1);
        Due.is("p15: the least OVER", 0, x.over(1, 7, 20));
        Due.is("p15: the greatest OVER", 2000, x.over(7, 1, 8));
    }

    /** Promise 16: "the SHIFT from g to k", Terms: "GEARS 1 .. 7". */
    private static void worstOfTheFirstAndTheLast() {
        for (int what = 0; what <= 1; what++) {
            int asked = what;
            Bounds.outside("p16: worst(g, 2, " + what + ")", 1, 7, Bounds::busy,
                    (x, g) -> x.worst(g, 2, asked));
            Bounds.outside("p16: worst(2, k, " + what + ")", 1, 7, Bounds::busy,
                    (x, k) -> x.worst(2, k, asked));
            Bounds.asked("p16: worst(1, 7, " + what + ")", 0, CallBoundsTest::ends,
                    x -> x.worst(1, 7, asked));
            Bounds.asked("p16: worst(7, 1, " + what + ")", 0, CallBoundsTest::ends,
                    x -> x.worst(7, 1, asked));
        }
    }

    /** Promise 16: "BAD: alike, too". */
    private static void worstAlike() {
        for (int g = 1; g <= 7; g++) {
            int both = g;
            Bounds.refused("p16: worst, both " + g, BAD, Bounds::busy, x -> x.worst(both, both, 0));
        }
    }

    /** Promise 16: "FLARE (what 0), BIND (1)", no other. */
    private static void worstEachWhat() {
        Bounds.within("p16: worst(1, 2, what)", 0, 1, Bounds::busy, (x, what) -> x.worst(1, 2, what));
        Bounds.asked("p16: FLARE", 600, Bounds::busy, x -> x.worst(1, 2, 0));
        Bounds.asked("p16: no BIND", 0, Bounds::busy, x -> x.worst(1, 2, 1));
        Bounds.asked("p16: no FLARE", 0, Bounds::busy, x -> x.worst(2, 1, 0));
        Bounds.asked("p16: BIND", 600, Bounds::busy, x -> x.worst(2, 1, 1));
    }

    /** Promise 16: "NO: not SIMPLE": FIT both, or one of them not THERE or not FIT. */
    private static void worstOfOnesNotSimple() {
        Bounds.refused("p16: worst(1, 6, 0), two swap", NO, Bounds::busy, x -> x.worst(1, 6, 0));
        Bounds.refused("p16: worst(1, 7, 1), not THERE", NO, Bounds::busy, x -> x.worst(1, 7, 1));
        Bounds.refused("p16: worst(1, 7, 0), no GEARS", NO, GearHolds::new, x -> x.worst(1, 7, 0));
        Bounds.refused("p16: worst(1, 7, 0), OPEN", NO, () -> failed(4, 1), x -> x.worst(1, 7, 0));
        Bounds.refused("p16: worst(1, 7, 1), SHUT", NO, () -> failed(4, 2), x -> x.worst(1, 7, 1));
    }

    /** Promise 16, Terms 2: "the first of: BAD ..; NO ..": what outside, or alike, of GEARS not SIMPLE. */
    private static void worstIsBadAheadOfNo() {
        Bounds.refused("p16: worst(1, 6, 2)", BAD, Bounds::busy, x -> x.worst(1, 6, 2));
        Bounds.refused("p16: worst(1, 6, -1)", BAD, Bounds::busy, x -> x.worst(1, 6, -1));
        Bounds.refused("p16: worst(7, 7, 0)", BAD, Bounds::busy, x -> x.worst(7, 7, 0));
    }

    // ---- promises 17 to 20

    /** Promise 17: "at a speed (0 .. 300)". */
    private static void wantAtTheLeastAndTheGreatestSpeed() {
        Bounds.within("p17: want(v)", 0, 300, Bounds::busy, (x, v) -> x.want(v));
        Bounds.within("p17: want(v), no GEARS", 0, 300, GearHolds::new, (x, v) -> x.want(v));
    }

    /** Promise 17: a question: nothing becomes of it, IN stays. */
    private static void wantChangesNothing() {
        Bounds.asked("p17: want(0)", 1, Bounds::busy, x -> x.want(0));
        Bounds.asked("p17: want(300)", 2, Bounds::busy, x -> x.want(300));
    }

    /** Promise 18: "at a speed (0 .. 300)". */
    private static void drivesAtTheLeastAndTheGreatestSpeed() {
        Bounds.within("p18: drives(v, 1)", 0, 300, Bounds::busy, (x, v) -> x.drives(v, 1));
        Bounds.within("p18: drives(v, 60)", 0, 300, Bounds::busy, (x, v) -> x.drives(v, 60));
    }

    /** Promise 18: "n TICKS (1 .. 60)", that many of them. */
    private static void drivesOneTickAndSixty() {
        Bounds.within("p18: drives(0, n)", 1, 60, Bounds::busy, (x, n) -> x.drives(0, n));
        Bounds.within("p18: drives(300, n)", 1, 60, Bounds::busy, (x, n) -> x.drives(300, n));
        GearHolds x = ends();
        x.drives(0, 1);
        Due.is("p18: TIME behind one", 1, x.state(1));
        x.drives(0, 60);
        Due.is("p18: TIME behind sixty more", 61, x.state(1));
    }

    /** Promise 18: "S": one STATE for all TICKS. */
    private static void drivesLeavesAState() {
        Bounds.left("p18: drives, one TICK", 1, CallBoundsTest::ends, x -> x.drives(0, 1));
        Bounds.left("p18: drives, sixty TICKS", 7, CallBoundsTest::ends, x -> x.drives(300, 60));
        Bounds.left("p18: drives, no GEARS", 0, GearHolds::new, x -> x.drives(300, 1));
        Bounds.left("p18: drives, learning", 2, CallBoundsTest::late, x -> x.drives(300, 1));
    }

    private static GearHolds late() {
        GearHolds x = Due.two();
        x.trues(2, 20);
        x.puts(1);
        return x;
    }

    /** Promise 19: "a GEAR, or NEUTRAL (0)", Terms: "GEARS 1 .. 7": "what it was". */
    private static void putsTheFirstAndTheLast() {
        Bounds.within("p19: puts(g)", 0, 7, CallBoundsTest::ends, (x, g) -> x.puts(g));
        Bounds.outside("p19: puts(g)", 0, 7, Bounds::busy, (x, g) -> x.puts(g));
        GearHolds x = ends();
        Due.is("p19: puts, it was NEUTRAL", 0, x.puts(1));
        Due.is("p19: puts, it was the first", 1, x.puts(7));
        Due.is("p19: puts, it was the last", 7, x.puts(7));
        Due.is("p19: puts, it was the last yet", 7, x.puts(0));
    }

    /** Promise 19: "or NEUTRAL (0)": without a GEAR THERE, too. */
    private static void putsNeutral() {
        Bounds.left("p19: puts(0), no GEARS", 0, GearHolds::new, x -> x.puts(0));
        GearHolds x = ends();
        x.puts(7);
        x.puts(0);
        Due.is("p19: NEUTRAL", 0, x.state(0));
    }

    /** Promise 19: "NO: it is not FIT": not THERE, OPEN, SHUT, the one that is in staying in. */
    private static void putsOneNotFit() {
        Bounds.refused("p19: puts, not THERE", NO, Bounds::busy, x -> x.puts(7));
        Bounds.refused("p19: puts, no GEARS", NO, GearHolds::new, x -> x.puts(1));
        Bounds.refused("p19: puts, OPEN", NO, () -> failed(4, 1), x -> x.puts(7));
        Bounds.refused("p19: puts, SHUT", NO, () -> failed(4, 2), x -> x.puts(1));
    }

    /** Promise 19: "no SHIFT done", "S", Terms: "also if nothing changes by it". */
    private static void putsLeavesAState() {
        Bounds.left("p19: puts", 0, CallBoundsTest::ends, x -> x.puts(7));
        Bounds.left("p19: puts, the same", 1, CallBoundsTest::late, x -> x.puts(1));
        GearHolds x = late();
        x.puts(2);
        int[] due = {2, 0, 0, NONE, 0, 0, 0, 0};
        for (int what = 0; what < due.length; what++) {
            Due.is("p19: puts, state(" + what + ")", due[what], x.state(what));
        }
        Due.is("p19: puts, nothing learnt", 8, x.clutch(2, 2));
    }

    /** Promise 20: "IN (what 0) .. FIT GEARS (12 ..)", no other. */
    private static void stateEachWhat() {
        int[] due = {1, 3, 10, 2, 2, 1, 1, 1, 3, 0, 5, 100, 126};
        for (int what = 0; what <= 12; what++) {
            int asked = what;
            Bounds.asked("p20: state(" + what + ")", due[what], Bounds::busy, x -> x.state(asked));
        }
        Bounds.outside("p20: state(what)", 0, 12, Bounds::busy, (x, what) -> x.state(what));
    }

    /** Promise 20: "FIT GEARS (12, bits 1 to 7)": none, the first, the last, all. */
    private static void stateOfFitGears() {
        GearHolds x = new GearHolds();
        Due.is("p20: FIT GEARS, none", 0, x.state(12));
        x.gear(1, 1);
        Due.is("p20: FIT GEARS, the first", 2, x.state(12));
        x.gear(7, 7);
        Due.is("p20: FIT GEARS, the first and the last", 130, x.state(12));
        x.gear(1, 0);
        Due.is("p20: FIT GEARS, the last", 128, x.state(12));
        Due.is("p20: FIT GEARS, all", 254, star().state(12));
    }
}
