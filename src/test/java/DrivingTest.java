/** Promises 17 to 20: WANT, TICKS, IN by hand, what stands. */
public final class DrivingTest {
    public static void main(String[] args) {
        want();
        wantWithSlopeAndDriver();
        wantPastGearsNotFit();
        fromTheFirstToTheLast();
        drives();
        drivesLearns();
        drivesLearnsAtTheLimit();
        fillStaysWithin();
        drivesAlongAWay();
        drivesWithoutAWay();
        hunting();
        huntingEdges();
        holdStopsUpAlone();
        puts();
        state();
        Due.end();
    }

    private static void want() {
        GearHolds x = new GearHolds();
        Due.is("want, no GEARS", 0, x.want(100));
        x.gear(2, 5);
        x.gear(3, 9);
        x.gear(4, 6);
        Due.is("want from NEUTRAL, the least", 2, x.want(300));
        x.puts(3);
        Due.is("want just below UP", 3, x.want(59));
        Due.is("want at UP", 4, x.want(60));
        Due.is("want at DOWN", 3, x.want(45));
        Due.is("want just below DOWN", 2, x.want(44));
        x.puts(4);
        Due.is("want, none above", 4, x.want(300));
        x.puts(2);
        Due.is("want, none below", 2, x.want(0));
        x.puts(3);
        x.up(3, 50);
        x.down(3, 100);
        Due.is("want, UP goes ahead of DOWN", 4, x.want(70));
        Due.is("want, below UP", 2, x.want(49));
        x.puts(4);
        x.up(4, 50);
        x.down(4, 100);
        Due.is("want, none above, so below", 3, x.want(70));
        Due.is("IN stays", 4, x.state(0));
        Due.is("want(0)", 3, x.want(0));
        Due.is("want(-1)", -2, x.want(-1));
        Due.is("want(301)", -2, x.want(301));
        Due.counts("want", x, 2, 0, 0, 5);
    }

    private static void wantWithSlopeAndDriver() {
        GearHolds x = Due.two();
        x.puts(1);
        x.slope(-2);
        Due.is("want at 9, slope -2", 1, x.want(9));
        Due.is("want at 10, slope -2", 2, x.want(10));
        x.driver(3);
        Due.is("want at 39, driver 3", 1, x.want(39));
        Due.is("want at 40, driver 3", 2, x.want(40));
        x.puts(2);
        Due.is("want at 45", 2, x.want(45));
        Due.is("want at 44", 1, x.want(44));
        x.slope(-3);
        x.driver(0);
        Due.is("want at 10", 2, x.want(10));
        Due.is("want at 9", 1, x.want(9));
        x.puts(1);
        x.up(1, 3);
        Due.is("want at 0, UP below 0", 2, x.want(0));
        Due.is("UP itself", 3, x.of(1, 2));
    }

    private static void wantPastGearsNotFit() {
        GearHolds x = Due.six();
        x.fails(1, 1);
        Due.is("FIT", 1 << 2 | 1 << 3 | 1 << 6, x.state(12));
        Due.is("want from NEUTRAL", 2, x.want(0));
        x.puts(3);
        Due.is("want up past 4 and 5", 6, x.want(300));
        x.puts(6);
        Due.is("want down past 5 and 4", 3, x.want(0));
    }

    private static void fromTheFirstToTheLast() {
        GearHolds x = new GearHolds();
        x.gear(7, 24);
        Due.is("want from NEUTRAL, the last alone", 7, x.want(0));
        x.gear(1, 17);
        Due.is("taken by the last", -3, x.gear(1, 24));
        Due.is("SIMPLE to the last", 1, x.of(1, 4));
        Due.is("CLUTCH of the last", 2, x.clutch(4, 3));
        Due.is("ties with the last", 1, x.ties(25));
        Due.is("way to the last", 7, x.way(1, 7, 0));
        x.puts(1);
        Due.is("drives up to the last", 7, x.drives(300, 1));
        Due.is("drives down to the first", 1, x.drives(0, 1));
    }

    private static void drives() {
        GearHolds x = Due.two();
        Due.is("drives from NEUTRAL", 1, x.drives(300, 1));
        Due.is("no SHIFT", 0, x.state(4));
        Due.is("no LAST UP", -1, x.state(3));
        Due.is("drives up", 2, x.drives(300, 60));
        Due.is("TIME", 61, x.state(1));
        Due.is("LAST UP", 2, x.state(3));
        Due.is("SHIFTS", 1, x.state(4));
        Due.counts("drives leaves one each", x, 0, 0, 0, 4);
        Due.is("drives(-1, 1)", -2, x.drives(-1, 1));
        Due.is("drives(301, 1)", -2, x.drives(301, 1));
        Due.is("drives(0, 0)", -2, x.drives(0, 0));
        Due.is("drives(0, 61)", -2, x.drives(0, 61));
        Due.is("drives(0, max)", -2, x.drives(0, Integer.MAX_VALUE));
        Due.is("TIME stays", 61, x.state(1));
        Due.counts("drives", x, 5, 0, 0, 4);
        GearHolds none = new GearHolds();
        Due.is("drives without GEARS", 0, none.drives(50, 3));
        Due.is("TIME goes on", 3, none.state(1));
    }

    private static void drivesLearns() {
        GearHolds x = Due.two();
        x.trues(2, 12);
        x.puts(1);
        x.drives(300, 1);
        Due.is("FILL of COMING one more", 9, x.clutch(2, 2));
        Due.is("FILL of GOING stays", 8, x.clutch(1, 2));
        Due.is("FLARE counted", 1, x.state(5));
        Due.is("BIND not", 0, x.state(6));
        x.trues(1, 4);
        x.drives(0, 1);
        Due.is("FILL of COMING one less", 7, x.clutch(1, 2));
        Due.is("FLARE not", 1, x.state(5));
        Due.is("BIND counted", 1, x.state(6));
        Due.is("SHIFTS", 2, x.state(4));
    }

    private static void drivesLearnsAtTheLimit() {
        GearHolds x = Due.two();
        x.trues(2, 9);
        x.sets(1, 200);
        x.puts(1);
        x.drives(300, 1);
        Due.is("FLARE not above LIMIT", 0, x.state(5));
        Due.is("FILL stays", 8, x.clutch(2, 2));
        x.puts(1);
        x.sets(1, 199);
        x.drives(300, 1);
        Due.is("FLARE above LIMIT", 1, x.state(5));
        Due.is("FILL one more", 9, x.clutch(2, 2));
        x.trues(2, 8);
        x.sets(1, 200);
        x.puts(1);
        x.drives(300, 1);
        Due.is("BIND not above LIMIT", 0, x.state(6));
        x.sets(1, 199);
        x.puts(1);
        x.drives(300, 1);
        Due.is("BIND above LIMIT", 1, x.state(6));
        Due.is("FILL one less", 8, x.clutch(2, 2));
    }

    private static void fillStaysWithin() {
        GearHolds x = Due.two();
        x.sets(1, 0);
        x.trues(2, 20);
        for (int i = 0; i < 14; i++) {
            x.puts(1);
            x.drives(300, 1);
        }
        Due.is("FILL has come to TRUE", 20, x.clutch(2, 2));
        Due.is("FLARES till then", 12, x.state(5));
        x.trues(2, 1);
        for (int i = 0; i < 21; i++) {
            x.puts(1);
            x.drives(300, 1);
        }
        Due.is("FILL has come down to TRUE", 1, x.clutch(2, 2));
        Due.is("BINDS till then", 19, x.state(6));
        Due.is("SHIFTS", 35, x.state(4));
    }

    private static void drivesAlongAWay() {
        GearHolds x = Due.six();
        x.gear(6, 0);
        x.gear(2, 12);
        x.trues(3, 20);
        x.trues(2, 1);
        x.puts(1);
        Due.is("way(1, 2, -1)", 2, x.way(1, 2, -1));
        Due.is("way(1, 2, 0)", 3, x.way(1, 2, 0));
        Due.is("drives in one TICK", 2, x.drives(20, 1));
        Due.is("SHIFTS", 2, x.state(4));
        Due.is("FLARE", 1, x.state(5));
        Due.is("BIND", 1, x.state(6));
        Due.is("FILL of the first to come", 9, x.clutch(3, 2));
        Due.is("FILL of the second to come", 7, x.clutch(2, 2));
        Due.is("LAST UP once", 1, x.state(3));
    }

    private static void drivesWithoutAWay() {
        GearHolds x = new GearHolds();
        x.gear(1, 3);
        x.gear(2, 12);
        x.drives(0, 1);
        Due.is("WANT", 2, x.want(300));
        Due.is("no WAY, IN stays", 1, x.drives(300, 3));
        Due.is("no LAST UP", -1, x.state(3));
        Due.is("TIME", 4, x.state(1));
        x.puts(2);
        Due.is("no WAY down", 2, x.drives(0, 1));
        Due.is("no SHIFT", 0, x.state(4));
    }

    private static void hunting() {
        GearHolds x = Due.two();
        x.puts(2);
        x.drives(0, 1);
        Due.is("down, never up before: no hunting", 0, x.state(7));
        x.drives(300, 1);
        Due.is("LAST UP", 2, x.state(3));
        x.drives(30, 4);
        x.drives(0, 1);
        Due.is("down 5 TICKS after up", 1, x.state(7));
        Due.is("HOLD", 10, x.state(2));
        Due.is("LAST UP stays", 2, x.state(3));
        Due.is("held nine TICKS", 1, x.drives(300, 9));
        Due.is("HOLD", 1, x.state(2));
        Due.is("up at the tenth", 2, x.drives(300, 1));
        Due.is("HOLD", 0, x.state(2));
        x.drives(30, 5);
        x.drives(0, 1);
        Due.is("down 6 TICKS after up", 1, x.state(7));
        Due.is("no HOLD", 0, x.state(2));
    }

    private static void huntingEdges() {
        GearHolds x = Due.two();
        x.drives(0, 1);
        x.drives(300, 1);
        x.puts(1);
        x.puts(2);
        x.drives(0, 1);
        Due.is("by hand between: hunts yet", 1, x.state(7));
        x.drives(0, 2);
        Due.is("HOLD", 8, x.state(2));
        x.puts(2);
        x.drives(0, 1);
        Due.is("hunts again while held", 2, x.state(7));
        Due.is("HOLD anew", 10, x.state(2));
        x.puts(0);
        Due.is("NEUTRAL", 0, x.state(0));
        x.drives(0, 1);
        Due.is("from NEUTRAL in spite of HOLD", 1, x.state(0));
        Due.is("HOLD", 9, x.state(2));
    }

    private static void holdStopsUpAlone() {
        GearHolds x = Due.six();
        x.drives(0, 1);
        x.drives(300, 2);
        Due.is("IN", 3, x.state(0));
        Due.is("down, HOLD", 2, x.drives(0, 1));
        Due.is("HOLD", 10, x.state(2));
        Due.is("down while held", 1, x.drives(0, 1));
        Due.is("HUNTED twice", 2, x.state(7));
        Due.is("up is held", 1, x.drives(300, 1));
    }

    private static void puts() {
        GearHolds x = Due.two();
        Due.is("puts(2)", 0, x.puts(2));
        Due.is("puts(2) again", 2, x.puts(2));
        Due.is("puts(1)", 2, x.puts(1));
        Due.is("puts(0)", 1, x.puts(0));
        Due.is("IN", 0, x.state(0));
        Due.is("no SHIFT", 0, x.state(4));
        Due.is("no LAST UP", -1, x.state(3));
        Due.is("puts(3), not THERE", -3, x.puts(3));
        x.fails(2, 1);
        Due.is("puts(2), not FIT", -3, x.puts(2));
        x.puts(1);
        Due.is("puts(-1)", -2, x.puts(-1));
        Due.is("puts(8)", -2, x.puts(8));
        Due.is("IN stays", 1, x.state(0));
        Due.counts("puts", x, 2, 2, 0, 5);
        GearHolds y = new GearHolds();
        y.puts(0);
        Due.counts("puts leaves one", y, 0, 0, 0, 1);
    }

    private static void state() {
        GearHolds x = Due.two();
        x.trues(2, 12);
        x.slope(-1);
        x.driver(2);
        x.sets(0, 6);
        x.sets(1, 90);
        x.drives(0, 1);
        x.drives(300, 1);
        x.trues(1, 3);
        x.drives(0, 2);
        int[] due = {1, 4, 9, 2, 2, 1, 1, 1, 2, 2, 6, 90, 6};
        for (int what = 0; what < due.length; what++) {
            Due.is("state(" + what + ")", due[what], x.state(what));
        }
        Due.counts("state leaves nothing", x, 0, 0, 0, 5);
        Due.is("state(-1)", -2, x.state(-1));
        Due.is("state(13)", -2, x.state(13));
        Due.counts("state", x, 2, 0, 0, 5);
    }
}
