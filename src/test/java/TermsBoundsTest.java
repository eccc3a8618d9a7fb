/**
 * The boundary cases of the document's Terms, but for THE TEXT, CAUSE and STATES: a test for each
 * sentence that names one; the remark ahead of a test tells its words.
 */
public final class TermsBoundsTest {
    private static final int NONE = -1, NO = -3, NO_WAY = -5;
    private static final int SOUND = 0, OPEN = 1, SHUT = 2;

    public static void main(String[] args) {
        gears();
        ways();
        overlaps();
        learning();
        wants();
        dropping();
        ticks();
        hunting();
        Due.end();
    }

    private static void gears() {
        clutchesAreFive();
        gearsAreSeven();
        setIsZeroAtFirst();
        notThereWithSetZero();
        noTwoThereTheSame();
        neutralIsZero();
        clutchesAreSoundAtFirst();
        fitWithoutAnOpenClutch();
        fitWithEachShutClutch();
        fitWithAllClutchesFailed();
        tiesFromTwoGearsOn();
        tiesOfGearsNotFit();
        simpleOfEachPairOfSets();
        simpleOfFitGearsAlone();
    }

    private static void ways() {
        wayOfOneShift();
        wayOfTheMostShifts();
        wayOfTheFewest();
        wayOfLikeOnesFirstByNumbers();
        wayThroughFitGearsAlone();
        wayMayBeNone();
    }

    private static void overlaps() {
        fillAndTrueAreEightAtFirst();
        rampAndLimitAtFirst();
        overAtEachTick();
        overHangsOnComingAlone();
        flareAndBindAreZeroAtLeast();
        flareAndBindAreThousandAtMost();
        flareAndBindAtTheLastTickOfAll();
        flareAndBindAreCut();
    }

    private static void learning() {
        learntIfFlareIsAboveLimit();
        learntIfBindIsAboveLimit();
        learntNothingAtTheGreatestLimitButOne();
        learntNothingWithoutFlareOrBind();
        fillIsTwentyAtMost();
        fillIsOneAtLeast();
    }

    private static void wants() {
        inIsNeutralAtFirst();
        upAndDownAtFirst();
        slopeAndDriverAreZeroAtFirst();
        addedAtTheLeast();
        addedAtTheGreatest();
        addedOfBoth();
        wantWithUpBelowZero();
        wantWithUpAboveAllSpeeds();
        wantWithDownBelowZero();
        wantWithDownAboveAllSpeeds();
        wantAboveTheLast();
        wantBelowTheFirst();
        wantUpGoesAheadOfDown();
        wantFromNeutral();
    }

    private static void dropping() {
        inGoesWithItsSet();
        inGoesWithAClutch();
        inStaysWhileFit();
        inNeutralStays();
    }

    private static void ticks() {
        timeIsOneMore();
        holdIsZeroAtLeast();
        fromNeutralDoesNotCountAsUp();
        heldUpWhileHoldIsAboveZero();
        notHeldDown();
        notHeldFromNeutral();
        noWayDoesNothing();
        eachShiftInOneTick();
        eachShiftIsLearnt();
        upByALowerGear();
        lastUpIsTheTime();
    }

    private static void hunting() {
        huntsFiveTicksAgoAtMost();
        huntsNotWithoutLastUp();
        huntsNotByHand();
        huntsNotWithoutAWay();
        holdIsTen();
    }

    /** Two GEARS, SIMPLE: COMING up is CLUTCH 2, of which FILL and TRUE are as asked for. */
    private static GearHolds filled(int fill, int isTrue) {
        GearHolds x = Due.two();
        x.sets(0, 1);
        x.sets(1, 0);
        x.trues(2, fill);
        drivesUpOften(x, 12);
        Due.is("FILL of CLUTCH 2", fill, x.clutch(2, 2));
        x.sets(0, 5);
        x.sets(1, 100);
        x.trues(2, isTrue);
        x.puts(1);
        return x;
    }

    // ---- gears and clutches

    /**
     * Terms 1 (promises 2, 11): "CLUTCHES 0 .. 4": a SET may hold each of five, the first and the
     * last alone, too.
     */
    private static void clutchesAreFive() {
        GearHolds x = new GearHolds();
        x.gear(1, 31);
        for (int c = 0; c <= 4; c++) {
            Due.is("GEARS of CLUTCH " + c, 1, x.clutch(c, 3));
        }
        x.gear(1, 1);
        Due.is("GEARS of the first", 1, x.clutch(0, 3));
        Due.is("GEARS of the second", 0, x.clutch(1, 3));
        x.gear(1, 16);
        Due.is("GEARS of the first", 0, x.clutch(0, 3));
        Due.is("GEARS of the last", 1, x.clutch(4, 3));
        Due.is("GEARS of the last but one", 0, x.clutch(3, 3));
    }

    /** Terms 1 (promise 2): "GEARS 1 .. 7": seven may be THERE at once. */
    private static void gearsAreSeven() {
        GearHolds x = new GearHolds();
        for (int g = 1; g <= 7; g++) {
            Due.is("gear(" + g + ")", 0, x.gear(g, g));
        }
        Due.is("FIT GEARS", 254, x.state(12));
    }

    /** Terms 1 (promises 1, 10): "0 at first: it is not THERE". */
    private static void setIsZeroAtFirst() {
        GearHolds x = new GearHolds();
        Due.is("SET of the first", 0, x.of(1, 0));
        Due.is("SET of the last", 0, x.of(7, 0));
        Due.is("it is not THERE", NO, x.puts(7));
    }

    /**
     * Terms 1 (promises 2, 10): "0 ..: it is not THERE": it is not FIT, ties nothing, and is SIMPLE
     * to none.
     */
    private static void notThereWithSetZero() {
        GearHolds x = new GearHolds();
        x.gear(1, 1);
        Due.is("FIT", 0, x.of(2, 1));
        Due.is("ties of none", 0, x.ties(0));
        Due.is("ties with one THERE", 0, x.ties(1));
        Due.is("SIMPLE", 0, x.simple(2, 3, 0));
        x.gear(1, 0);
        Due.is("FIT, no more THERE", 0, x.of(1, 1));
        Due.is("FIT GEARS", 0, x.state(12));
    }

    /** Terms 1 (promise 2): "no two that are THERE the same": the least and the greatest SET. */
    private static void noTwoThereTheSame() {
        GearHolds x = new GearHolds();
        x.gear(1, 31);
        x.gear(2, 1);
        Due.is("the greatest again", NO, x.gear(7, 31));
        Due.is("the least again", NO, x.gear(7, 1));
        Due.is("SET of the last", 0, x.of(7, 0));
        x.gear(1, 0);
        Due.is("the greatest, left by the other one", 0, x.gear(7, 31));
    }

    /** Terms 1 (promises 19, 20): "NEUTRAL is told as 0". */
    private static void neutralIsZero() {
        GearHolds x = Due.two();
        Due.is("puts answers NEUTRAL", 0, x.puts(2));
        x.puts(0);
        Due.is("IN", 0, x.state(0));
        Due.is("WANT without GEARS", 0, new GearHolds().want(0));
        Due.is("drives without GEARS", 0, new GearHolds().drives(300, 1));
    }

    /** Terms 1 (promises 1, 11): "STATE of a CLUTCH: 0 SOUND (at first)". */
    private static void clutchesAreSoundAtFirst() {
        GearHolds x = new GearHolds();
        Due.is("STATE of the first", SOUND, x.clutch(0, 0));
        Due.is("STATE of the last", SOUND, x.clutch(4, 0));
        x.gear(1, 31);
        Due.is("FIT with all CLUTCHES", 1, x.of(1, 1));
        x.gear(1, 1);
        Due.is("FIT with one CLUTCH", 1, x.of(1, 1));
    }

    /**
     * Terms 1 (promises 3, 10): "FIT, if no CLUTCH of its SET is OPEN": each one alone, the first
     * and the last.
     */
    private static void fitWithoutAnOpenClutch() {
        for (int c = 0; c <= 4; c++) {
            GearHolds x = new GearHolds();
            x.gear(1, 31);
            x.gear(7, 31 - (1 << c));
            x.fails(c, OPEN);
            Due.is("FIT, OPEN " + c + " of its SET", 0, x.of(1, 1));
            Due.is("FIT, OPEN " + c + " not of its SET", 1, x.of(7, 1));
        }
    }

    /**
     * Terms 1 (promises 3, 10): "and each that is SHUT is of its SET": each one alone, the first
     * and the last.
     */
    private static void fitWithEachShutClutch() {
        for (int c = 0; c <= 4; c++) {
            GearHolds x = new GearHolds();
            x.gear(1, 1 << c);
            x.gear(7, 31 - (1 << c));
            x.fails(c, SHUT);
            Due.is("FIT, SHUT " + c + " of its SET", 1, x.of(1, 1));
            Due.is("FIT, SHUT " + c + " not of its SET", 0, x.of(7, 1));
        }
    }

    /**
     * Terms 1 (promises 3, 20): FIT with all CLUTCHES SHUT: the GEAR of all alone; with all OPEN:
     * none; with some of both.
     */
    private static void fitWithAllClutchesFailed() {
        int[] sets = {31, 30, 15, 1, 16, 21, 10};
        GearHolds x = new GearHolds();
        for (int g = 1; g <= 7; g++) {
            x.gear(g, sets[g - 1]);
        }
        failAll(x, 31);
        Due.is("FIT GEARS, all SHUT", 1 << 1, x.state(12));
        failAll(x, 0);
        Due.is("FIT GEARS, all OPEN", 0, x.state(12));
        failAll(x, 21);
        Due.is("FIT GEARS, some SHUT, the others OPEN", 1 << 6, x.state(12));
    }

    private static void failAll(GearHolds x, int shut) {
        for (int c = 0; c <= 4; c++) {
            x.fails(c, (shut >> c & 1) == 1 ? SHUT : OPEN);
        }
    }

    /**
     * Terms 1 (promise 12): "TIES, if two GEARS or more that are THERE have their SETS within it":
     * none, one, two, seven.
     */
    private static void tiesFromTwoGearsOn() {
        int[] sets = {31, 1, 16, 3, 24, 30, 15};
        GearHolds x = new GearHolds();
        Due.is("ties, none", 0, x.ties(31));
        for (int g = 1; g <= 7; g++) {
            x.gear(g, sets[g - 1]);
            Due.is("ties, GEARS " + g, g >= 2 ? 1 : 0, x.ties(31));
        }
        Due.is("ties, two", 1, x.ties(3));
        Due.is("ties, none within", 0, x.ties(2));
        Due.is("ties, the first alone", 0, x.ties(1));
        Due.is("ties, the first and the last", 1, x.ties(17));
    }

    /**
     * Terms 1 (promise 12): "two GEARS or more that are THERE": FIT or not; no more, once they are
     * not THERE.
     */
    private static void tiesOfGearsNotFit() {
        GearHolds x = Due.two();
        failAll(x, 0);
        Due.is("FIT GEARS, all OPEN", 0, x.state(12));
        Due.is("ties, all OPEN", 1, x.ties(7));
        failAll(x, 31);
        Due.is("FIT GEARS, all SHUT", 0, x.state(12));
        Due.is("ties, all SHUT", 1, x.ties(7));
        x.gear(1, 0);
        Due.is("ties, one THERE", 0, x.ties(7));
    }

    /**
     * Terms 1 (promises 10, 13): "SIMPLE: .. one CLUTCH being of the SET of the one alone, one of
     * .. the other one alone, no more".
     */
    private static void simpleOfEachPairOfSets() {
        for (int a = 1; a <= 31; a++) {
            for (int b = 1; b <= 31; b++) {
                if (a != b) {
                    simpleOfSets(a, b);
                }
            }
        }
    }

    private static void simpleOfSets(int a, int b) {
        int goes = NONE;
        int comes = NONE;
        int going = 0;
        int coming = 0;
        for (int c = 0; c <= 4; c++) {
            boolean before = (a >> c & 1) == 1;
            boolean behind = (b >> c & 1) == 1;
            going += before && !behind ? 1 : 0;
            coming += behind && !before ? 1 : 0;
            goes = before && !behind ? c : goes;
            comes = behind && !before ? c : comes;
        }
        boolean due = going == 1 && coming == 1;
        GearHolds x = new GearHolds();
        x.gear(1, a);
        x.gear(7, b);
        String what = "SETS " + a + " and " + b;
        Due.is(what + ": SIMPLE", due ? 1 : 0, x.simple(1, 7, 0));
        Due.is(what + ": COMING", due ? comes : NONE, x.simple(1, 7, 1));
        Due.is(what + ": GOING", due ? goes : NONE, x.simple(1, 7, 2));
        Due.is(what + ": to how many SIMPLE", due ? 1 : 0, x.of(7, 4));
    }

    /**
     * Terms 1 (promises 10, 13): "SIMPLE: two unlike FIT GEARS": not, if the one or the other one
     * or both are not FIT.
     */
    private static void simpleOfFitGearsAlone() {
        int[] failing = {1, 2, 0};
        for (int c : failing) {
            GearHolds x = Due.two();
            x.fails(c, OPEN);
            Due.is("SIMPLE, OPEN " + c, 0, x.simple(1, 2, 0));
            Due.is("to how many SIMPLE, OPEN " + c, 0, x.of(1, 4));
            Due.is("to how many SIMPLE, OPEN " + c, 0, x.of(2, 4));
            x.fails(c, SHUT);
            Due.is("SIMPLE, SHUT " + c, c == 0 ? 1 : 0, x.simple(1, 2, 0));
        }
    }

    // ---- ways

    /**
     * Terms 1 (promise 14): "the fewest GEARS behind that from which it goes (it is not told among
     * them)": one SHIFT.
     */
    private static void wayOfOneShift() {
        GearHolds x = Due.two();
        Due.is("how many", 1, x.way(2, 1, -1));
        Due.is("the first and last", 1, x.way(2, 1, 0));
        Due.is("no other", NO_WAY, x.way(2, 1, 1));
    }

    /** Three SHIFTS: with five CLUTCHES no WAY of two CLUTCHES a GEAR is longer. */
    private static GearHolds chain() {
        GearHolds x = new GearHolds();
        x.gear(1, 3);
        x.gear(4, 6);
        x.gear(2, 12);
        x.gear(7, 24);
        return x;
    }

    /**
     * Terms 1 (promise 14): "from one to the next SIMPLE, the last being that other one": the most
     * SHIFTS.
     */
    private static void wayOfTheMostShifts() {
        GearHolds x = chain();
        int[] there = {4, 2, 7};
        int[] back = {2, 4, 1};
        Due.is("how many", 3, x.way(1, 7, -1));
        Due.is("how many back", 3, x.way(7, 1, -1));
        for (int i = 0; i < 3; i++) {
            Due.is("the GEAR " + i, there[i], x.way(1, 7, i));
            Due.is("the GEAR back " + i, back[i], x.way(7, 1, i));
        }
        Due.is("no fourth", NO_WAY, x.way(1, 7, 3));
    }

    /**
     * Terms 1 (promise 14): "the fewest GEARS": a longer WAY by lower numbers does not go ahead of
     * a shorter one.
     */
    private static void wayOfTheFewest() {
        GearHolds x = chain();
        x.gear(6, 10);
        Due.is("how many", 2, x.way(4, 7, -1));
        Due.is("by the last but one", 2, x.way(4, 7, 0));
        GearHolds y = new GearHolds();
        y.gear(5, 3);
        y.gear(1, 5);
        y.gear(6, 6);
        Due.is("SIMPLE at once", 1, y.way(5, 6, -1));
        Due.is("at once, not by 1", 6, y.way(5, 6, 0));
    }

    /**
     * Terms 1 (promise 14): "of like ones the first by numbers": the first GEAR that differs tells,
     * also not the first one.
     */
    private static void wayOfLikeOnesFirstByNumbers() {
        GearHolds x = new GearHolds();
        int[] sets = {24, 20, 6, 12, 3};
        for (int g = 1; g <= 5; g++) {
            x.gear(g, sets[g - 1]);
        }
        Due.is("how many", 3, x.way(5, 1, -1));
        Due.is("the first", 3, x.way(5, 1, 0));
        Due.is("the second, 2 or 4", 2, x.way(5, 1, 1));
        Due.is("back, the first, 2 or 4", 2, x.way(1, 5, 0));
        x.gear(2, 0);
        Due.is("the second, 4 alone", 4, x.way(5, 1, 1));
        Due.is("back, the first, 4 alone", 4, x.way(1, 5, 0));
    }

    /**
     * Terms 1 (promise 14): "WAY from a FIT GEAR to another one .., from one to the next SIMPLE":
     * FIT GEARS between alone.
     */
    private static void wayThroughFitGearsAlone() {
        GearHolds x = new GearHolds();
        x.gear(1, 3);
        x.gear(2, 18);
        x.gear(3, 20);
        x.gear(7, 12);
        Due.is("by two more", 3, x.way(1, 7, -1));
        x.fails(4, OPEN);
        Due.is("the first and the last are FIT", 1 << 1 | 1 << 7, x.state(12));
        Due.is("those between are not FIT", NO_WAY, x.way(1, 7, -1));
        Due.is("from one not FIT", NO, x.way(2, 7, -1));
        Due.is("to one not FIT", NO, x.way(1, 3, -1));
        x.gear(6, 5);
        Due.is("by another one", 2, x.way(1, 7, -1));
        Due.is("by the other one", 6, x.way(1, 7, 0));
    }

    /** Terms 1 (promise 14): "there may be none". */
    private static void wayMayBeNone() {
        GearHolds x = chain();
        x.gear(2, 0);
        Due.is("no WAY, how many", NO_WAY, x.way(1, 7, -1));
        Due.is("no WAY, the first", NO_WAY, x.way(1, 7, 0));
        Due.is("a WAY of a part yet", 1, x.way(1, 4, -1));
        GearHolds y = new GearHolds();
        y.gear(1, 1);
        y.gear(7, 31);
        Due.is("no WAY, the one within the other", NO_WAY, y.way(1, 7, -1));
    }

    // ---- overlaps

    /** Terms 1 (promises 1, 11): "FILL .., TRUE .. (1 .. 20 each; 8 at first)". */
    private static void fillAndTrueAreEightAtFirst() {
        GearHolds x = new GearHolds();
        for (int c = 0; c <= 4; c++) {
            Due.is("TRUE of " + c, 8, x.clutch(c, 1));
            Due.is("FILL of " + c, 8, x.clutch(c, 2));
        }
    }

    /** Terms 1 (promises 1, 20): "RAMP R (.. 5 at first)", "LIMIT (.. 100 at first)". */
    private static void rampAndLimitAtFirst() {
        GearHolds x = Due.two();
        Due.is("RAMP", 5, x.state(10));
        Due.is("LIMIT", 100, x.state(11));
        x.trues(2, 9);
        Due.is("OVER by RAMP at first", 800, x.over(1, 2, 9));
    }

    /**
     * Terms 1 (promise 15): "SHARE ..: 1000 times (t less ..) by R, cut, 0 at least, 1000 at most":
     * all ticks, TRUES, some RAMPS.
     */
    private static void overAtEachTick() {
        int[] ramps = {1, 2, 3, 7, 11, 12};
        int[] fills = {1, 8, 20};
        for (int fill : fills) {
            for (int isTrue = 1; isTrue <= 20; isTrue++) {
                for (int ramp : ramps) {
                    overOf(fill, isTrue, ramp);
                }
            }
        }
    }

    private static void overOf(int fill, int isTrue, int ramp) {
        GearHolds x = filled(fill, isTrue);
        x.sets(0, ramp);
        int flare = 0;
        int bind = 0;
        String what = "FILL " + fill + ", TRUE " + isTrue + ", RAMP " + ramp;
        for (int t = 0; t <= 40; t++) {
            int over = share(t - isTrue, ramp) + 1000 - share(t - fill, ramp) - 1000;
            Due.is(what + ": OVER at " + t, over + 1000, x.over(1, 2, t));
            flare = Math.max(flare, -over);
            bind = Math.max(bind, over);
        }
        Due.is(what + ": FLARE", flare, x.worst(1, 2, 0));
        Due.is(what + ": BIND", bind, x.worst(1, 2, 1));
    }

    private static int share(int ticks, int ramp) {
        if (ticks <= 0) {
            return 0;
        }
        return ticks >= ramp ? 1000 : 1000 * ticks / ramp;
    }

    /**
     * Terms 1 (promise 15): "of GOING: .. less FILL of COMING": TRUE and FILL of the one that goes
     * tell nothing.
     */
    private static void overHangsOnComingAlone() {
        GearHolds x = Due.two();
        x.trues(1, 20);
        for (int t = 0; t <= 40; t++) {
            Due.is("OVER at " + t + ", GOING being late", 1000, x.over(1, 2, t));
        }
        Due.is("FLARE", 0, x.worst(1, 2, 0));
        Due.is("FLARE the other way", 1000, x.worst(2, 1, 0));
    }

    /** Terms 1 (promise 16): "FLARE: 0 less the least OVER ..; BIND: the greatest (0 at least both)". */
    private static void flareAndBindAreZeroAtLeast() {
        GearHolds x = filled(8, 8);
        Due.is("FLARE, in time", 0, x.worst(1, 2, 0));
        Due.is("BIND, in time", 0, x.worst(1, 2, 1));
        x.trues(2, 20);
        Due.is("BIND, late", 0, x.worst(1, 2, 1));
        x.trues(2, 1);
        Due.is("FLARE, early", 0, x.worst(1, 2, 0));
    }

    /** Terms 1 (promise 16): SHARE "0 at least, 1000 at most": so FLARE and BIND are 1000 at most. */
    private static void flareAndBindAreThousandAtMost() {
        GearHolds late = filled(1, 20);
        late.sets(0, 12);
        Due.is("FLARE, latest", 1000, late.worst(1, 2, 0));
        late.sets(0, 1);
        Due.is("FLARE, latest, shortest RAMP", 1000, late.worst(1, 2, 0));
        GearHolds early = filled(20, 1);
        early.sets(0, 12);
        Due.is("BIND, earliest", 1000, early.worst(1, 2, 1));
        early.sets(0, 1);
        Due.is("BIND, earliest, shortest RAMP", 1000, early.worst(1, 2, 1));
    }

    /**
     * Terms 1 (promise 16): "of t 0 .. 40": they are found where one tick alone has them, the first
     * and the last such.
     */
    private static void flareAndBindAtTheLastTickOfAll() {
        int[][] fillAndTrue = {{1, 2}, {2, 1}, {19, 20}, {20, 19}};
        int[] flare = {1000, 0, 1000, 0};
        for (int i = 0; i < fillAndTrue.length; i++) {
            GearHolds x = filled(fillAndTrue[i][0], fillAndTrue[i][1]);
            x.sets(0, 1);
            Due.is("FLARE in one tick, " + i, flare[i], x.worst(1, 2, 0));
            Due.is("BIND in one tick, " + i, 1000 - flare[i], x.worst(1, 2, 1));
        }
    }

    /** Terms 1 (promise 16): "by R, cut": the SHARES are cut, each alone, ahead of being put together. */
    private static void flareAndBindAreCut() {
        GearHolds x = filled(8, 9);
        x.sets(0, 12);
        Due.is("FLARE of a twelfth", 84, x.worst(1, 2, 0));
        Due.is("OVER, a twelfth", 917, x.over(1, 2, 9));
        Due.is("OVER, two twelfths less one", 917, x.over(1, 2, 10));
        Due.is("OVER, three twelfths less two", 916, x.over(1, 2, 11));
        x.trues(2, 7);
        x.sets(0, 3);
        Due.is("BIND of a third", 334, x.worst(1, 2, 1));
        Due.is("OVER, a third", 1333, x.over(1, 2, 8));
        Due.is("OVER, all less two thirds", 1334, x.over(1, 2, 10));
    }

    // ---- learning

    private static void drivesUpWithLimit(String what, GearHolds x, int limit, int flares, int binds, int fill) {
        x.sets(1, limit);
        x.puts(1);
        Due.is(what + ": IN", 2, x.drives(300, 1));
        Due.is(what + ": FLARES", flares, x.state(5));
        Due.is(what + ": BINDS", binds, x.state(6));
        Due.is(what + ": FILL", fill, x.clutch(2, 2));
    }

    /**
     * Terms 1 (promise 18): "FILL of COMING is 1 more .., if FLARE is above LIMIT": at it, one
     * above, the least LIMIT.
     */
    private static void learntIfFlareIsAboveLimit() {
        GearHolds x = Due.two();
        x.trues(2, 9);
        drivesUpWithLimit("FLARE 200 at LIMIT", x, 200, 0, 0, 8);
        drivesUpWithLimit("FLARE 200 above LIMIT", x, 199, 1, 0, 9);
        x.trues(2, 10);
        drivesUpWithLimit("FLARE above the least LIMIT", x, 0, 2, 0, 10);
        x.trues(2, 20);
        drivesUpWithLimit("FLARE 1000 above the greatest LIMIT", x, 999, 3, 0, 11);
    }

    /**
     * Terms 1 (promise 18): "else 1 less .., if BIND is": at LIMIT, one above, the least LIMIT, the
     * greatest.
     */
    private static void learntIfBindIsAboveLimit() {
        GearHolds x = Due.two();
        x.trues(2, 7);
        drivesUpWithLimit("BIND 200 at LIMIT", x, 200, 0, 0, 8);
        drivesUpWithLimit("BIND 200 above LIMIT", x, 199, 0, 1, 7);
        x.trues(2, 6);
        drivesUpWithLimit("BIND above the least LIMIT", x, 0, 0, 2, 6);
        x.trues(2, 1);
        drivesUpWithLimit("BIND 1000 above the greatest LIMIT", x, 999, 0, 3, 5);
    }

    /** Terms 1 (promise 18): "LIMIT (0 .. 999": FLARE or BIND below 1000 are not above the greatest. */
    private static void learntNothingAtTheGreatestLimitButOne() {
        GearHolds x = Due.two();
        x.sets(0, 12);
        x.trues(2, 19);
        Due.is("FLARE", 917, x.worst(1, 2, 0));
        drivesUpWithLimit("FLARE 917 at the greatest LIMIT", x, 999, 0, 0, 8);
        x.trues(2, 1);
        Due.is("BIND", 584, x.worst(1, 2, 1));
        drivesUpWithLimit("BIND 584 at the greatest LIMIT", x, 999, 0, 0, 8);
    }

    /** Terms 1 (promise 18): "above LIMIT": FLARE and BIND of 0 are not above the least LIMIT. */
    private static void learntNothingWithoutFlareOrBind() {
        drivesUpWithLimit("in time", Due.two(), 0, 0, 0, 8);
    }

    private static void drivesUpOften(GearHolds x, int times) {
        for (int i = 0; i < times; i++) {
            x.puts(1);
            x.drives(300, 1);
        }
    }

    /** Terms 1 (promise 18): "FILL of COMING is 1 more (20 at most)". */
    private static void fillIsTwentyAtMost() {
        GearHolds x = Due.two();
        x.sets(0, 1);
        x.sets(1, 0);
        x.trues(2, 20);
        drivesUpOften(x, 12);
        Due.is("FILL, the greatest", 20, x.clutch(2, 2));
        drivesUpOften(x, 3);
        Due.is("FILL, no more", 20, x.clutch(2, 2));
        Due.is("FLARES", 12, x.state(5));
    }

    /** Terms 1 (promise 18): "1 less (1 at least)". */
    private static void fillIsOneAtLeast() {
        GearHolds x = Due.two();
        x.sets(0, 1);
        x.sets(1, 0);
        x.trues(2, 1);
        drivesUpOften(x, 7);
        Due.is("FILL, the least", 1, x.clutch(2, 2));
        drivesUpOften(x, 3);
        Due.is("FILL, no less", 1, x.clutch(2, 2));
        Due.is("BINDS", 7, x.state(6));
    }

    // ---- wanted gears

    /** Terms 2 (promises 1, 20): "IN: the GEAR that is in (NEUTRAL at first)". */
    private static void inIsNeutralAtFirst() {
        Due.is("IN", 0, new GearHolds().state(0));
        Due.is("IN, GEARS being THERE", 0, Due.six().state(0));
    }

    /** Terms 2 (promises 1, 10): "UP 20 times its number, DOWN 20 times its number less 15 at first". */
    private static void upAndDownAtFirst() {
        GearHolds x = new GearHolds();
        Due.is("UP of the first", 20, x.of(1, 2));
        Due.is("DOWN of the first", 5, x.of(1, 3));
        Due.is("UP of the last", 140, x.of(7, 2));
        Due.is("DOWN of the last", 125, x.of(7, 3));
    }

    /** Three GEARS, the middle one being in, with UP and DOWN as asked for. */
    private static GearHolds middle(int up, int down, int slope, int driver) {
        GearHolds x = new GearHolds();
        x.gear(1, 3);
        x.gear(4, 5);
        x.gear(7, 9);
        x.up(4, up);
        x.down(4, down);
        x.slope(slope);
        x.driver(driver);
        x.puts(4);
        return x;
    }

    /** UP and DOWN with what is added being as told: up at UP and not below, down below DOWN, not at it. */
    private static void turnsAt(String what, GearHolds x, int up, int down) {
        Due.is(what + ": at UP", 7, x.want(up));
        Due.is(what + ": one below UP", 4, x.want(up - 1));
        Due.is(what + ": at DOWN", 4, x.want(down));
        Due.is(what + ": one below DOWN", 1, x.want(down - 1));
    }

    /** Terms 2 (promises 1, 20): "SLOPE .., DRIVER .., both 0 at first": nothing is added. */
    private static void slopeAndDriverAreZeroAtFirst() {
        GearHolds x = new GearHolds();
        Due.is("SLOPE", 3, x.state(8));
        Due.is("DRIVER", 0, x.state(9));
        turnsAt("nothing added", middle(100, 50, 0, 0), 100, 50);
    }

    /** Terms 2 (promise 17): "5 times SLOPE .. are added to each UP and DOWN": the least. */
    private static void addedAtTheLeast() {
        turnsAt("SLOPE -3", middle(100, 50, -3, 0), 85, 35);
        turnsAt("SLOPE -1", middle(100, 50, -1, 0), 95, 45);
    }

    /**
     * Terms 2 (promise 17): "5 times SLOPE and 10 times DRIVER are added": the greatest of each,
     * and of both.
     */
    private static void addedAtTheGreatest() {
        turnsAt("SLOPE 3", middle(100, 50, 3, 0), 115, 65);
        turnsAt("DRIVER 3", middle(100, 50, 0, 3), 130, 80);
        turnsAt("SLOPE 3, DRIVER 3", middle(100, 50, 3, 3), 145, 95);
    }

    /**
     * Terms 2 (promise 17): "5 times SLOPE and 10 times DRIVER": the least SLOPE and the greatest
     * DRIVER.
     */
    private static void addedOfBoth() {
        turnsAt("SLOPE -3, DRIVER 3", middle(100, 50, -3, 3), 115, 65);
        turnsAt("SLOPE 1, DRIVER 1", middle(100, 50, 1, 1), 115, 65);
    }

    /**
     * Terms 2 (promise 17): "if v is UP of IN (with what is added) or more": UP 0, and below 0 with
     * what is added.
     */
    private static void wantWithUpBelowZero() {
        Due.is("UP 0", 7, middle(0, 0, 0, 0).want(0));
        Due.is("UP -15", 7, middle(0, 0, -3, 0).want(0));
        Due.is("UP 1", 4, middle(1, 0, 0, 0).want(0));
        Due.is("UP 15 - 15", 7, middle(15, 0, -3, 0).want(0));
        Due.is("UP 16 - 15", 4, middle(16, 0, -3, 0).want(0));
    }

    /**
     * Terms 2 (promise 17): "if v is UP of IN (with what is added) or more": UP 300, and above 300
     * with what is added.
     */
    private static void wantWithUpAboveAllSpeeds() {
        Due.is("UP 300", 7, middle(300, 0, 0, 0).want(300));
        Due.is("UP 300 and 5", 4, middle(300, 0, 1, 0).want(300));
        Due.is("UP 300 and 45", 4, middle(300, 0, 3, 3).want(300));
        Due.is("UP 255 and 45", 7, middle(255, 0, 3, 3).want(300));
        Due.is("UP 256 and 45", 4, middle(256, 0, 3, 3).want(300));
    }

    /**
     * Terms 2 (promise 17): "if v is below DOWN of IN (likewise)": DOWN 0, and below 0 with what is
     * added.
     */
    private static void wantWithDownBelowZero() {
        Due.is("DOWN 0", 4, middle(300, 0, 0, 0).want(0));
        Due.is("DOWN 1", 1, middle(300, 1, 0, 0).want(0));
        Due.is("DOWN -15", 4, middle(300, 0, -3, 0).want(0));
        Due.is("DOWN 15 - 15", 4, middle(300, 15, -3, 0).want(0));
        Due.is("DOWN 16 - 15", 1, middle(300, 16, -3, 0).want(0));
    }

    /**
     * Terms 2 (promise 17): "if v is below DOWN of IN (likewise)": DOWN 300, and above 300 with
     * what is added.
     */
    private static void wantWithDownAboveAllSpeeds() {
        Due.is("UP and DOWN 305 at 300", 1, middle(300, 300, 1, 0).want(300));
        GearHolds x = middle(300, 300, 0, 0);
        x.gear(7, 0);
        Due.is("DOWN 300 at 300, none above", 4, x.want(300));
        Due.is("DOWN 300 at 299", 1, x.want(299));
        x.slope(1);
        Due.is("DOWN 305 at 300", 1, x.want(300));
    }

    /**
     * Terms 2 (promise 17): "the next FIT GEAR above, if .. there is one": from the last, and from
     * the last that is FIT.
     */
    private static void wantAboveTheLast() {
        GearHolds x = middle(0, 0, 0, 0);
        x.up(7, 0);
        x.down(7, 0);
        x.puts(7);
        Due.is("above the last", 7, x.want(300));
        x.puts(4);
        x.fails(3, OPEN);
        Due.is("above the last that is FIT", 4, x.want(300));
        x.down(4, 300);
        x.slope(3);
        Due.is("none above, so the next below", 1, x.want(300));
    }

    /**
     * Terms 2 (promise 17): "the next FIT one below, if .. there is one; else IN": from the first,
     * and the first FIT one.
     */
    private static void wantBelowTheFirst() {
        GearHolds x = middle(300, 300, 0, 0);
        x.down(1, 300);
        x.up(1, 300);
        x.puts(1);
        Due.is("below the first", 1, x.want(0));
        x.puts(4);
        x.fails(1, OPEN);
        Due.is("below the first that is FIT", 4, x.want(0));
    }

    /**
     * Terms 2 (promise 17): "else the next FIT one below": UP is asked ahead of DOWN, where both
     * would be.
     */
    private static void wantUpGoesAheadOfDown() {
        GearHolds x = middle(50, 100, 0, 0);
        Due.is("between UP and DOWN", 7, x.want(75));
        Due.is("at UP", 7, x.want(50));
        Due.is("one below UP", 1, x.want(49));
        Due.is("one below DOWN", 7, x.want(99));
    }

    /**
     * Terms 2 (promise 17): "IN being NEUTRAL: the least FIT GEAR; if there is none NEUTRAL", at
     * any speed.
     */
    private static void wantFromNeutral() {
        GearHolds x = middle(0, 300, 0, 0);
        x.puts(0);
        Due.is("the least, slowest", 1, x.want(0));
        Due.is("the least, fastest", 1, x.want(300));
        x.fails(1, OPEN);
        Due.is("the least that is FIT", 4, x.want(300));
        x.fails(2, OPEN);
        Due.is("the last alone", 7, x.want(0));
        x.fails(0, OPEN);
        Due.is("none", 0, x.want(0));
    }

    // ---- what drops IN

    /**
     * Terms 2 (promise 2): "IN becomes NEUTRAL at once, .. (its SET becoming another one": 0, with
     * an OPEN one, without a SHUT one.
     */
    private static void inGoesWithItsSet() {
        GearHolds x = Due.two();
        x.puts(2);
        x.gear(2, 0);
        Due.is("IN, its SET being 0", 0, x.state(0));
        GearHolds y = Due.two();
        y.fails(4, OPEN);
        y.puts(2);
        y.gear(2, 21);
        Due.is("IN, its SET with an OPEN one", 0, y.state(0));
        GearHolds z = Due.two();
        z.fails(0, SHUT);
        z.puts(2);
        z.gear(2, 4);
        Due.is("IN, its SET without a SHUT one", 0, z.state(0));
    }

    /**
     * Terms 2 (promise 3): "IN becomes NEUTRAL at once, .. by a CLUTCH's STATE)": the first and the
     * last CLUTCH.
     */
    private static void inGoesWithAClutch() {
        int[] open = {0, 4};
        for (int c : open) {
            GearHolds x = new GearHolds();
            x.gear(7, 17);
            x.puts(7);
            x.fails(c, OPEN);
            Due.is("IN, OPEN " + c, 0, x.state(0));
            x.fails(c, SOUND);
            Due.is("IN, SOUND again " + c, 0, x.state(0));
            GearHolds y = new GearHolds();
            y.gear(1, 31 - (1 << c));
            y.puts(1);
            y.fails(c, SHUT);
            Due.is("IN, SHUT " + c, 0, y.state(0));
        }
    }

    /**
     * Terms 2 (promises 2, 3): "whenever it is a GEAR that is no more FIT": not by another GEAR,
     * not while FIT.
     */
    private static void inStaysWhileFit() {
        GearHolds x = new GearHolds();
        x.gear(1, 17);
        x.gear(7, 6);
        x.puts(1);
        x.fails(0, SHUT);
        x.fails(4, SHUT);
        x.fails(1, OPEN);
        Due.is("IN, SHUT of its SET, OPEN not of it", 1, x.state(0));
        x.gear(7, 0);
        Due.is("IN, another GEAR going", 1, x.state(0));
        x.gear(1, 25);
        Due.is("IN, FIT with its SET", 1, x.state(0));
    }

    /**
     * Terms 2 (promises 2, 3): "it is a GEAR that is no more FIT": NEUTRAL stays, whatever fails or
     * comes.
     */
    private static void inNeutralStays() {
        GearHolds x = Due.two();
        x.fails(0, OPEN);
        x.fails(0, SOUND);
        x.gear(7, 16);
        Due.is("IN", 0, x.state(0));
    }

    // ---- ticks

    /** Terms 2 (promise 18): "A TICK ..: the TIME (0 at first) is 1 more", whatever else the TICK does. */
    private static void timeIsOneMore() {
        GearHolds x = new GearHolds();
        Due.is("TIME at first", 0, x.state(1));
        x.drives(0, 1);
        Due.is("TIME, no GEARS", 1, x.state(1));
        GearHolds y = chain();
        y.puts(7);
        y.gear(4, 0);
        y.drives(0, 2);
        Due.is("TIME, no WAY", 2, y.state(1));
        y.puts(1);
        Due.is("TIME, by hand", 2, y.state(1));
        y.want(300);
        Due.is("TIME, asked", 2, y.state(1));
    }

    /** Gears up and down at once: HOLD is 10, IN is 1, TIME 3, LAST UP 2. */
    private static GearHolds hunted() {
        GearHolds x = Due.two();
        x.drives(0, 1);
        x.drives(300, 1);
        x.drives(0, 1);
        return x;
    }

    /** Terms 2 (promise 18): "HOLD (0 at first) 1 less (0 at least)". */
    private static void holdIsZeroAtLeast() {
        GearHolds x = Due.two();
        Due.is("HOLD at first", 0, x.state(2));
        x.drives(0, 1);
        Due.is("HOLD, no less", 0, x.state(2));
        GearHolds y = hunted();
        for (int due = 9; due >= 0; due--) {
            y.drives(0, 1);
            Due.is("HOLD", due, y.state(2));
        }
        y.drives(0, 1);
        Due.is("HOLD, no less than 0", 0, y.state(2));
        y.drives(0, 60);
        Due.is("HOLD, no less by sixty", 0, y.state(2));
    }

    /** Terms 2 (promise 18): "from NEUTRAL it is IN (no SHIFT; it does not count as up)". */
    private static void fromNeutralDoesNotCountAsUp() {
        GearHolds x = Due.two();
        x.trues(0, 20);
        x.trues(1, 1);
        x.fails(1, OPEN);
        Due.is("IN, from NEUTRAL to 2", 2, x.drives(300, 1));
        Due.is("SHIFTS", 0, x.state(4));
        Due.is("LAST UP", NONE, x.state(3));
        Due.is("FLARES", 0, x.state(5));
        Due.is("FILL", 8, x.clutch(0, 2));
        x.fails(1, SOUND);
        Due.is("down at once", 1, x.drives(0, 1));
        Due.is("no hunting", 0, x.state(7));
        Due.is("one GEAR a TICK", 1, Due.two().drives(300, 1));
    }

    /**
     * Terms 2 (promise 18): "if it is above IN and HOLD is above 0, nothing": HOLD 1 behind the
     * TICK's own less, then 0.
     */
    private static void heldUpWhileHoldIsAboveZero() {
        GearHolds x = hunted();
        for (int hold = 9; hold >= 1; hold--) {
            Due.is("held", 1, x.drives(300, 1));
            Due.is("HOLD", hold, x.state(2));
            Due.is("WANT all the same", 2, x.want(300));
        }
        Due.is("LAST UP stays", 2, x.state(3));
        Due.is("SHIFTS stay", 2, x.state(4));
        Due.is("up, HOLD having come to 0 in this TICK", 2, x.drives(300, 1));
        Due.is("HOLD", 0, x.state(2));
        Due.is("LAST UP", 13, x.state(3));
    }

    /** Terms 2 (promise 18): "if it is above IN and HOLD is above 0": down goes all the same. */
    private static void notHeldDown() {
        GearHolds x = hunted();
        x.puts(2);
        x.drives(30, 5);
        Due.is("HOLD", 5, x.state(2));
        Due.is("down", 1, x.drives(0, 1));
        Due.is("SHIFTS", 3, x.state(4));
        Due.is("HOLD, six TICKS behind up or more", 4, x.state(2));
    }

    /**
     * Terms 2 (promise 18): "from NEUTRAL it is IN", "From a GEAR: if .. HOLD is above 0": from
     * NEUTRAL it is not held.
     */
    private static void notHeldFromNeutral() {
        GearHolds x = hunted();
        x.puts(0);
        Due.is("IN from NEUTRAL", 1, x.drives(300, 1));
        Due.is("HOLD", 9, x.state(2));
        Due.is("held then", 1, x.drives(300, 1));
    }

    /**
     * Terms 2 (promise 18): "else, if there is a WAY to it": else nothing but TIME and HOLD, up and
     * down.
     */
    private static void noWayDoesNothing() {
        GearHolds x = chain();
        x.gear(4, 0);
        x.gear(2, 0);
        x.drives(0, 1);
        Due.is("WANT up", 7, x.want(300));
        Due.is("up without a WAY", 1, x.drives(300, 1));
        Due.is("LAST UP", NONE, x.state(3));
        x.puts(7);
        Due.is("WANT down", 1, x.want(0));
        Due.is("down without a WAY", 7, x.drives(0, 1));
        int[] due = {7, 3, 0, NONE, 0, 0, 0, 0};
        for (int what = 0; what < due.length; what++) {
            Due.is("state(" + what + ")", due[what], x.state(what));
        }
    }

    /**
     * Terms 2 (promise 18): "each SHIFT of the WAY is done, one after the other, in this TICK": the
     * most SHIFTS, in one.
     */
    private static void eachShiftInOneTick() {
        GearHolds x = new GearHolds();
        x.gear(4, 3);
        x.gear(1, 6);
        x.gear(2, 12);
        x.gear(5, 24);
        x.puts(4);
        Due.is("WANT", 5, x.want(80));
        Due.is("up by three SHIFTS", 5, x.drives(80, 1));
        Due.is("TIME", 1, x.state(1));
        Due.is("SHIFTS", 3, x.state(4));
        Due.is("LAST UP", 1, x.state(3));
        Due.is("down by three SHIFTS", 4, x.drives(84, 1));
        Due.is("SHIFTS", 6, x.state(4));
        Due.is("HUNTED once", 1, x.state(7));
    }

    /** Terms 2 (promise 18): "each LEARNT": of the most SHIFTS in one TICK each by its own COMING. */
    private static void eachShiftIsLearnt() {
        GearHolds x = new GearHolds();
        x.gear(4, 3);
        x.gear(1, 6);
        x.gear(2, 12);
        x.gear(5, 24);
        x.trues(2, 20);
        x.trues(3, 1);
        x.trues(4, 20);
        x.puts(4);
        x.drives(80, 1);
        int[] fill = {8, 8, 9, 7, 9};
        for (int c = 0; c <= 4; c++) {
            Due.is("FILL of " + c, fill[c], x.clutch(c, 2));
        }
        Due.is("FLARES", 2, x.state(5));
        Due.is("BINDS", 1, x.state(6));
    }

    /**
     * Terms 2 (promise 18): "If that was up": whither the WAY goes in all tells, not its SHIFTS: up
     * by a lower GEAR.
     */
    private static void upByALowerGear() {
        GearHolds x = new GearHolds();
        x.gear(4, 3);
        x.gear(1, 6);
        x.gear(5, 12);
        x.puts(4);
        Due.is("up by 1", 5, x.drives(300, 1));
        Due.is("SHIFTS", 2, x.state(4));
        Due.is("LAST UP", 1, x.state(3));
        Due.is("no hunting", 0, x.state(7));
        x.drives(85, 4);
        Due.is("LAST UP, staying", 1, x.state(3));
        GearHolds y = new GearHolds();
        y.gear(1, 3);
        y.gear(7, 6);
        y.gear(2, 12);
        y.puts(2);
        Due.is("down by 7", 1, y.drives(0, 1));
        Due.is("SHIFTS", 2, y.state(4));
        Due.is("LAST UP, not up", NONE, y.state(3));
        Due.is("no hunting, not up", 0, y.state(7));
    }

    /** Terms 2 (promise 18): "If that was up: LAST UP is the TIME" (of that TICK, "NONE at first"). */
    private static void lastUpIsTheTime() {
        GearHolds x = Due.six();
        Due.is("LAST UP at first", NONE, x.state(3));
        x.puts(1);
        x.drives(300, 1);
        Due.is("LAST UP in the first TICK", 1, x.state(3));
        x.drives(300, 60);
        Due.is("IN", 6, x.state(0));
        Due.is("LAST UP, the last of five", 5, x.state(3));
        Due.is("TIME", 61, x.state(1));
    }

    // ---- hunting

    private static void downBehindUp(int ticks, int hunts) {
        GearHolds x = Due.two();
        x.puts(1);
        x.drives(300, 1);
        if (ticks > 1) {
            x.drives(30, ticks - 1);
        }
        Due.is("down " + ticks + " TICKS behind up", 1, x.drives(0, 1));
        Due.is("HUNTED, " + ticks + " TICKS behind up", hunts, x.state(7));
        Due.is("HOLD, " + ticks + " TICKS behind up", hunts == 1 ? 10 : 0, x.state(2));
        Due.is("LAST UP, " + ticks + " TICKS behind up", 1, x.state(3));
    }

    /** Terms 2 (promise 18): "If down, LAST UP having been 5 TICKS ago or less: it HUNTS". */
    private static void huntsFiveTicksAgoAtMost() {
        downBehindUp(1, 1);
        downBehindUp(4, 1);
        downBehindUp(5, 1);
        downBehindUp(6, 0);
        downBehindUp(60, 0);
    }

    /** Terms 2 (promise 18): "LAST UP having been": NONE at first; the first TICKS do not hunt. */
    private static void huntsNotWithoutLastUp() {
        for (int ticks = 1; ticks <= 6; ticks++) {
            GearHolds x = Due.two();
            x.puts(2);
            if (ticks > 1) {
                x.drives(30, ticks - 1);
            }
            Due.is("down in TICK " + ticks, 1, x.drives(0, 1));
            Due.is("HUNTED in TICK " + ticks, 0, x.state(7));
            Due.is("HOLD in TICK " + ticks, 0, x.state(2));
        }
    }

    /** Promise 19: "by hand, no SHIFT done": up by hand is not LAST UP, down by hand does not hunt. */
    private static void huntsNotByHand() {
        GearHolds x = Due.two();
        x.puts(1);
        x.puts(2);
        Due.is("down behind up by hand", 1, x.drives(0, 1));
        Due.is("HUNTED", 0, x.state(7));
        x.drives(300, 1);
        x.puts(1);
        Due.is("down by hand", 0, x.state(7));
        Due.is("HOLD", 0, x.state(2));
    }

    /** Terms 2 (promise 18): "if there is a WAY to it ..": wanted down without a WAY it does not hunt. */
    private static void huntsNotWithoutAWay() {
        GearHolds x = Due.two();
        x.puts(1);
        x.drives(300, 1);
        x.gear(1, 24);
        Due.is("WANT", 1, x.want(0));
        Due.is("down without a WAY", 2, x.drives(0, 1));
        Due.is("HUNTED", 0, x.state(7));
        Due.is("HOLD", 0, x.state(2));
    }

    /**
     * Terms 2 (promise 18): "it HUNTS: HOLD is 10": from the next TICK on it is less; again 10, if
     * it hunts while held.
     */
    private static void holdIsTen() {
        GearHolds x = hunted();
        Due.is("HOLD", 10, x.state(2));
        x.drives(0, 1);
        Due.is("HOLD, a TICK on", 9, x.state(2));
        x.puts(2);
        x.drives(0, 1);
        Due.is("HUNTED twice", 2, x.state(7));
        Due.is("HOLD anew", 10, x.state(2));
    }
}
