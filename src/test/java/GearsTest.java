/** Promises 1 to 12: a new object, gears and clutches. */
public final class GearsTest {
    public static void main(String[] args) {
        aNewObject();
        gear();
        gearDropsIn();
        fails();
        failsDropsIn();
        trues();
        up();
        down();
        slope();
        driver();
        sets();
        of();
        clutch();
        ties();
        Due.end();
    }

    private static void aNewObject() {
        GearHolds x = new GearHolds();
        for (int g = 1; g <= 7; g++) {
            Due.is("new: of(" + g + ", 0)", 0, x.of(g, 0));
            Due.is("new: of(" + g + ", 1)", 0, x.of(g, 1));
            Due.is("new: of(" + g + ", 2)", 20 * g, x.of(g, 2));
            Due.is("new: of(" + g + ", 3)", 20 * g - 15, x.of(g, 3));
            Due.is("new: of(" + g + ", 4)", 0, x.of(g, 4));
        }
        int[] clutch = {0, 8, 8, 0};
        for (int c = 0; c < 5; c++) {
            for (int what = 0; what < clutch.length; what++) {
                Due.is("new: clutch(" + c + ", " + what + ")", clutch[what], x.clutch(c, what));
            }
        }
        int[] state = {0, 0, 0, -1, 0, 0, 0, 0, 3, 0, 5, 100, 0};
        for (int what = 0; what < state.length; what++) {
            Due.is("new: state(" + what + ")", state[what], x.state(what));
        }
        for (int what = 0; what <= 4; what++) {
            Due.is("new: told(" + what + ")", 0, x.told(what));
        }
        Due.is("new: why(0)", 0, x.why(0));
        Due.is("new: why(1)", -1, x.why(1));
        Due.is("new: back()", -3, x.back());
    }

    private static void gear() {
        GearHolds x = new GearHolds();
        Due.is("gear first", 0, x.gear(1, 31));
        Due.is("gear again, as it is", 31, x.gear(1, 31));
        Due.is("gear another set", 31, x.gear(1, 7));
        Due.is("gear, the set that was left", 0, x.gear(7, 31));
        Due.is("gear, taken", -3, x.gear(2, 7));
        Due.is("gear, not there", 7, x.gear(1, 0));
        Due.is("gear, two not there", 0, x.gear(2, 0));
        Due.is("gear, no more taken", 0, x.gear(2, 7));
        Due.counts("gear", x, 0, 1, 0, 5);
        Due.is("gear(0, 1)", -2, x.gear(0, 1));
        Due.is("gear(8, 1)", -2, x.gear(8, 1));
        Due.is("gear(1, -1)", -2, x.gear(1, -1));
        Due.is("gear(1, 32)", -2, x.gear(1, 32));
        Due.is("gear(min, max)", -2, x.gear(Integer.MIN_VALUE, Integer.MAX_VALUE));
        Due.is("gear(8, 7), BAD ahead of NO", -2, x.gear(8, 7));
        Due.counts("gear", x, 6, 1, 0, 5);
        Due.is("gear after refusals", 7, x.of(2, 0));
    }

    private static void gearDropsIn() {
        GearHolds x = Due.two();
        x.puts(1);
        x.gear(1, 6);
        Due.is("IN stays, FIT with another set", 1, x.state(0));
        x.gear(2, 0);
        Due.is("IN stays, another GEAR goes", 1, x.state(0));
        x.gear(1, 0);
        Due.is("IN goes with its GEAR", 0, x.state(0));
        x.gear(1, 3);
        Due.is("IN does not come back", 0, x.state(0));
        x.puts(1);
        x.fails(4, 1);
        x.gear(1, 17);
        Due.is("IN goes, an OPEN clutch in the set", 0, x.state(0));
        x.gear(1, 3);
        x.fails(4, 0);
        x.fails(1, 2);
        x.puts(1);
        x.gear(1, 1);
        Due.is("IN goes, a SHUT clutch out of the set", 0, x.state(0));
    }

    private static void fails() {
        GearHolds x = Due.two();
        Due.is("fails open", 0, x.fails(1, 1));
        Due.is("fails open: FIT", 1 << 2, x.state(12));
        Due.is("fails shut", 1, x.fails(1, 2));
        Due.is("fails shut: FIT", 1 << 1, x.state(12));
        Due.is("fails sound", 2, x.fails(1, 0));
        Due.is("fails sound: FIT", 1 << 1 | 1 << 2, x.state(12));
        Due.is("fails(4, 2)", 0, x.fails(4, 2));
        Due.is("fails, SHUT of no set: FIT", 0, x.state(12));
        Due.is("fails(-1, 0)", -2, x.fails(-1, 0));
        Due.is("fails(5, 0)", -2, x.fails(5, 0));
        Due.is("fails(0, -1)", -2, x.fails(0, -1));
        Due.is("fails(0, 3)", -2, x.fails(0, 3));
        Due.is("fails(max, 0)", -2, x.fails(Integer.MAX_VALUE, 0));
        Due.counts("fails", x, 5, 0, 0, 5);
    }

    private static void failsDropsIn() {
        GearHolds x = Due.two();
        x.puts(1);
        x.fails(2, 1);
        Due.is("IN stays, OPEN of another GEAR", 1, x.state(0));
        x.fails(0, 2);
        Due.is("IN stays, SHUT of its set", 1, x.state(0));
        x.fails(0, 1);
        Due.is("IN goes, OPEN of its set", 0, x.state(0));
        x.fails(0, 0);
        Due.is("IN does not come back", 0, x.state(0));
        x.puts(1);
        x.fails(3, 2);
        Due.is("IN goes, SHUT out of its set", 0, x.state(0));
    }

    private static void trues() {
        GearHolds x = new GearHolds();
        Due.is("trues(4, 1)", 8, x.trues(4, 1));
        Due.is("trues(4, 20)", 1, x.trues(4, 20));
        Due.is("TRUE", 20, x.clutch(4, 1));
        Due.is("FILL stays", 8, x.clutch(4, 2));
        Due.is("TRUE of another", 8, x.clutch(3, 1));
        Due.is("trues(0, 0)", -2, x.trues(0, 0));
        Due.is("trues(0, 21)", -2, x.trues(0, 21));
        Due.is("trues(-1, 5)", -2, x.trues(-1, 5));
        Due.is("trues(5, 5)", -2, x.trues(5, 5));
        Due.counts("trues", x, 4, 0, 0, 2);
    }

    private static void up() {
        GearHolds x = new GearHolds();
        Due.is("up(1, 0)", 20, x.up(1, 0));
        Due.is("up(1, 300)", 0, x.up(1, 300));
        Due.is("up(7, 5)", 140, x.up(7, 5));
        Due.is("UP", 300, x.of(1, 2));
        Due.is("DOWN stays", 5, x.of(1, 3));
        Due.is("up(0, 5)", -2, x.up(0, 5));
        Due.is("up(8, 5)", -2, x.up(8, 5));
        Due.is("up(1, -1)", -2, x.up(1, -1));
        Due.is("up(1, 301)", -2, x.up(1, 301));
        Due.counts("up", x, 4, 0, 0, 3);
    }

    private static void down() {
        GearHolds x = new GearHolds();
        Due.is("down(1, 0)", 5, x.down(1, 0));
        Due.is("down(1, 300)", 0, x.down(1, 300));
        Due.is("down(7, 9)", 125, x.down(7, 9));
        Due.is("DOWN", 300, x.of(1, 3));
        Due.is("UP stays", 20, x.of(1, 2));
        Due.is("down(0, 5)", -2, x.down(0, 5));
        Due.is("down(8, 5)", -2, x.down(8, 5));
        Due.is("down(1, -1)", -2, x.down(1, -1));
        Due.is("down(1, 301)", -2, x.down(1, 301));
        Due.counts("down", x, 4, 0, 0, 3);
    }

    private static void slope() {
        GearHolds x = new GearHolds();
        for (int v = -3; v <= 3; v++) {
            Due.is("slope(" + v + ")", v == -3 ? 3 : v - 1 + 3, x.slope(v));
            Due.is("state(8)", v + 3, x.state(8));
        }
        Due.is("slope(-4)", -2, x.slope(-4));
        Due.is("slope(4)", -2, x.slope(4));
        Due.is("slope(max)", -2, x.slope(Integer.MAX_VALUE));
        Due.is("SLOPE stays", 6, x.state(8));
        Due.counts("slope", x, 3, 0, 0, 5);
    }

    private static void driver() {
        GearHolds x = new GearHolds();
        Due.is("driver(3)", 0, x.driver(3));
        Due.is("driver(1)", 3, x.driver(1));
        Due.is("driver(-1)", -2, x.driver(-1));
        Due.is("driver(4)", -2, x.driver(4));
        Due.is("DRIVER", 1, x.state(9));
        Due.counts("driver", x, 2, 0, 0, 2);
    }

    private static void sets() {
        GearHolds x = new GearHolds();
        Due.is("sets(0, 1)", 5, x.sets(0, 1));
        Due.is("sets(0, 12)", 1, x.sets(0, 12));
        Due.is("sets(1, 0)", 100, x.sets(1, 0));
        Due.is("sets(1, 999)", 0, x.sets(1, 999));
        Due.is("RAMP", 12, x.state(10));
        Due.is("LIMIT", 999, x.state(11));
        Due.is("sets(0, 0)", -2, x.sets(0, 0));
        Due.is("sets(0, 13)", -2, x.sets(0, 13));
        Due.is("sets(1, -1)", -2, x.sets(1, -1));
        Due.is("sets(1, 1000)", -2, x.sets(1, 1000));
        Due.is("sets(2, 5)", -2, x.sets(2, 5));
        Due.is("sets(-1, 5)", -2, x.sets(-1, 5));
        Due.counts("sets", x, 6, 0, 0, 4);
    }

    private static void of() {
        GearHolds x = Due.six();
        Due.is("of(6, 0)", 12, x.of(6, 0));
        Due.is("of(6, 1)", 1, x.of(6, 1));
        Due.is("of(7, 1), not there", 0, x.of(7, 1));
        Due.is("of(3, 2)", 60, x.of(3, 2));
        Due.is("of(3, 3)", 45, x.of(3, 3));
        Due.is("of(1, 4)", 4, x.of(1, 4));
        x.fails(1, 1);
        Due.is("of(1, 1), OPEN", 0, x.of(1, 1));
        Due.is("of(1, 0), OPEN", 3, x.of(1, 0));
        Due.is("of(1, 4), not FIT", 0, x.of(1, 4));
        Due.is("of(2, 4), others not FIT", 2, x.of(2, 4));
        Due.counts("of leaves nothing", x, 0, 0, 0, 5);
        Due.is("of(0, 0)", -2, x.of(0, 0));
        Due.is("of(8, 0)", -2, x.of(8, 0));
        Due.is("of(1, -1)", -2, x.of(1, -1));
        Due.is("of(1, 5)", -2, x.of(1, 5));
        Due.is("of(min, 0)", -2, x.of(Integer.MIN_VALUE, 0));
        Due.counts("of", x, 5, 0, 0, 5);
    }

    private static void clutch() {
        GearHolds x = Due.six();
        x.fails(0, 1);
        x.trues(0, 13);
        Due.is("clutch(0, 0)", 1, x.clutch(0, 0));
        Due.is("clutch(0, 1)", 13, x.clutch(0, 1));
        Due.is("clutch(0, 2)", 8, x.clutch(0, 2));
        Due.is("clutch(0, 3), THERE though not FIT", 3, x.clutch(0, 3));
        Due.is("clutch(4, 3)", 0, x.clutch(4, 3));
        x.gear(7, 16);
        Due.is("clutch(4, 3)", 1, x.clutch(4, 3));
        x.gear(7, 0);
        Due.is("clutch(4, 3)", 0, x.clutch(4, 3));
        Due.is("clutch(-1, 0)", -2, x.clutch(-1, 0));
        Due.is("clutch(5, 0)", -2, x.clutch(5, 0));
        Due.is("clutch(0, -1)", -2, x.clutch(0, -1));
        Due.is("clutch(0, 4)", -2, x.clutch(0, 4));
        Due.counts("clutch", x, 4, 0, 0, 5);
    }

    private static void ties() {
        GearHolds x = Due.two();
        Due.is("ties(3), one", 0, x.ties(3));
        Due.is("ties(7), two", 1, x.ties(7));
        Due.is("ties(0), none, GEARS not THERE do not count", 0, x.ties(0));
        Due.is("ties(31)", 1, x.ties(31));
        x.fails(1, 1);
        Due.is("ties(7), THERE though not FIT", 1, x.ties(7));
        x.gear(3, 1);
        Due.is("ties(3), one within the other", 1, x.ties(3));
        Due.is("ties(-1)", -2, x.ties(-1));
        Due.is("ties(32)", -2, x.ties(32));
        Due.counts("ties", x, 2, 0, 0, 4);
    }
}
