/** Promises 13 to 16: SIMPLE, WAY, OVER, FLARE and BIND. */
public final class ShiftsTest {
    public static void main(String[] args) {
        simple();
        way();
        wayByNumbers();
        wayRoundWhatFails();
        longestWay();
        over();
        worst();
        Due.end();
    }

    private static void simple() {
        GearHolds x = Due.six();
        Due.is("simple(1, 2, 0)", 1, x.simple(1, 2, 0));
        Due.is("simple(1, 2, 1)", 2, x.simple(1, 2, 1));
        Due.is("simple(1, 2, 2)", 1, x.simple(1, 2, 2));
        Due.is("simple(2, 1, 1)", 1, x.simple(2, 1, 1));
        Due.is("simple(2, 1, 2)", 2, x.simple(2, 1, 2));
        Due.is("simple(1, 6, 0), two swap", 0, x.simple(1, 6, 0));
        Due.is("simple(1, 6, 1)", -1, x.simple(1, 6, 1));
        Due.is("simple(1, 6, 2)", -1, x.simple(1, 6, 2));
        x.gear(7, 1);
        Due.is("simple(1, 7, 0), one within the other", 0, x.simple(1, 7, 0));
        x.gear(7, 28);
        Due.is("simple(3, 7, 0), one goes, two come", 0, x.simple(3, 7, 0));
        x.gear(7, 0);
        Due.is("simple(1, 7, 0), not THERE", 0, x.simple(1, 7, 0));
        x.fails(2, 1);
        Due.is("simple(1, 2, 0), not FIT", 0, x.simple(1, 2, 0));
        Due.is("simple(1, 2, 1), not FIT", -1, x.simple(1, 2, 1));
        Due.counts("simple leaves nothing", x, 0, 0, 0, 5);
        Due.is("simple(1, 1, 0)", -2, x.simple(1, 1, 0));
        Due.is("simple(0, 1, 0)", -2, x.simple(0, 1, 0));
        Due.is("simple(1, 8, 0)", -2, x.simple(1, 8, 0));
        Due.is("simple(1, 2, -1)", -2, x.simple(1, 2, -1));
        Due.is("simple(1, 2, 3)", -2, x.simple(1, 2, 3));
        Due.counts("simple", x, 5, 0, 0, 5);
    }

    private static void way() {
        GearHolds x = Due.six();
        Due.is("way(1, 2, -1)", 1, x.way(1, 2, -1));
        Due.is("way(1, 2, 0)", 2, x.way(1, 2, 0));
        Due.is("way(1, 2, 1)", -5, x.way(1, 2, 1));
        Due.is("way(6, 1, -1)", 2, x.way(6, 1, -1));
        Due.is("way(6, 1, 0)", 2, x.way(6, 1, 0));
        Due.is("way(6, 1, 1)", 1, x.way(6, 1, 1));
        Due.is("way(6, 1, max)", -5, x.way(6, 1, Integer.MAX_VALUE));
        Due.is("way(1, 7, -1), not THERE", -3, x.way(1, 7, -1));
        Due.is("way(7, 1, 0), not THERE", -3, x.way(7, 1, 0));
        x.gear(7, 16);
        Due.is("way(1, 7, -1), none", -5, x.way(1, 7, -1));
        Due.is("way(1, 7, 0), none", -5, x.way(1, 7, 0));
        Due.counts("way", x, 0, 2, 0, 5);
        Due.is("way(1, 1, 0)", -2, x.way(1, 1, 0));
        Due.is("way(0, 1, 0)", -2, x.way(0, 1, 0));
        Due.is("way(1, 8, 0)", -2, x.way(1, 8, 0));
        Due.is("way(1, 2, -2)", -2, x.way(1, 2, -2));
        x.gear(7, 0);
        Due.is("way(1, 7, -2), BAD ahead of NO", -2, x.way(1, 7, -2));
        Due.counts("way", x, 5, 2, 0, 5);
    }

    /** From {0} to {3} by {1} or by {2}: the least number goes first, from either side. */
    private static void wayByNumbers() {
        GearHolds x = new GearHolds();
        x.gear(1, 6);
        x.gear(3, 12);
        x.gear(5, 10);
        x.gear(6, 3);
        Due.is("way(6, 3, -1)", 2, x.way(6, 3, -1));
        Due.is("way(6, 3, 0)", 1, x.way(6, 3, 0));
        Due.is("way(6, 3, 1)", 3, x.way(6, 3, 1));
        Due.is("way(3, 6, 0)", 1, x.way(3, 6, 0));
        x.gear(1, 0);
        Due.is("way(6, 3, 0), the other one", 5, x.way(6, 3, 0));
    }

    private static void wayRoundWhatFails() {
        GearHolds x = Due.six();
        Due.is("way(1, 6, 0)", 2, x.way(1, 6, 0));
        x.gear(2, 0);
        Due.is("way(1, 6, 0), without 2", 3, x.way(1, 6, 0));
        x.gear(2, 5);
        x.fails(0, 1);
        Due.is("way(4, 6, 0), without clutch 0", 6, x.way(4, 6, 0));
        Due.is("way(1, 6, 0), not FIT", -3, x.way(1, 6, 0));
        x.fails(0, 2);
        Due.is("way(1, 3, 0), clutch 0 shut", 3, x.way(1, 3, 0));
        Due.is("way(4, 1, 0), clutch 0 shut", -3, x.way(4, 1, 0));
    }

    /** Three SHIFTS: with five CLUTCHES no WAY is longer. */
    private static void longestWay() {
        GearHolds x = new GearHolds();
        x.gear(7, 3);
        x.gear(2, 5);
        x.gear(6, 20);
        x.gear(3, 24);
        Due.is("way(7, 3, -1)", 3, x.way(7, 3, -1));
        Due.is("way(7, 3, 0)", 2, x.way(7, 3, 0));
        Due.is("way(7, 3, 1)", 6, x.way(7, 3, 1));
        Due.is("way(7, 3, 2)", 3, x.way(7, 3, 2));
        Due.is("way(7, 3, 3)", -5, x.way(7, 3, 3));
    }

    private static void over() {
        GearHolds x = Due.two();
        for (int t = 0; t <= 40; t++) {
            Due.is("over(1, 2, " + t + "), as held", 1000, x.over(1, 2, t));
        }
        x.sets(0, 3);
        x.trues(2, 10);
        Due.is("over at 8", 1000, x.over(1, 2, 8));
        Due.is("over at 9, cut", 667, x.over(1, 2, 9));
        Due.is("over at 10, cut", 334, x.over(1, 2, 10));
        Due.is("over at 11", 333, x.over(1, 2, 11));
        Due.is("over at 12", 666, x.over(1, 2, 12));
        Due.is("over at 13", 1000, x.over(1, 2, 13));
        Due.is("over the other way, clutch 1 comes", 1000, x.over(2, 1, 10));
        x.trues(2, 7);
        Due.is("over at 8, early", 1333, x.over(1, 2, 8));
        Due.is("over at 40", 1000, x.over(1, 2, 40));
        Due.counts("over leaves nothing", x, 0, 0, 0, 5);
        Due.is("over(1, 3, 0), not THERE", -3, x.over(1, 3, 0));
        x.gear(3, 1);
        Due.is("over(1, 3, 0), not SIMPLE", -3, x.over(1, 3, 0));
        Due.is("over(1, 1, 0)", -2, x.over(1, 1, 0));
        Due.is("over(0, 1, 0)", -2, x.over(0, 1, 0));
        Due.is("over(1, 8, 0)", -2, x.over(1, 8, 0));
        Due.is("over(1, 2, -1)", -2, x.over(1, 2, -1));
        Due.is("over(1, 2, 41)", -2, x.over(1, 2, 41));
        Due.is("over(1, 3, 41), BAD ahead of NO", -2, x.over(1, 3, 41));
        Due.counts("over", x, 6, 2, 0, 5);
    }

    private static void worst() {
        GearHolds x = Due.two();
        Due.is("worst(1, 2, 0), as held", 0, x.worst(1, 2, 0));
        Due.is("worst(1, 2, 1), as held", 0, x.worst(1, 2, 1));
        x.trues(2, 9);
        Due.is("FLARE, one late", 200, x.worst(1, 2, 0));
        Due.is("no BIND, one late", 0, x.worst(1, 2, 1));
        x.trues(2, 20);
        Due.is("FLARE, twelve late", 1000, x.worst(1, 2, 0));
        x.sets(0, 12);
        Due.is("FLARE at the last of a long RAMP", 1000, x.worst(1, 2, 0));
        x.trues(2, 5);
        Due.is("BIND, three early", 250, x.worst(1, 2, 1));
        Due.is("no FLARE, three early", 0, x.worst(1, 2, 0));
        x.sets(0, 7);
        Due.is("BIND, cut", 429, x.worst(1, 2, 1));
        Due.is("down, clutch 1 comes", 0, x.worst(2, 1, 1));
        Due.is("worst(1, 3, 0), not THERE", -3, x.worst(1, 3, 0));
        Due.is("worst(1, 1, 0)", -2, x.worst(1, 1, 0));
        Due.is("worst(0, 1, 0)", -2, x.worst(0, 1, 0));
        Due.is("worst(1, 8, 0)", -2, x.worst(1, 8, 0));
        Due.is("worst(1, 2, -1)", -2, x.worst(1, 2, -1));
        Due.is("worst(1, 2, 2)", -2, x.worst(1, 2, 2));
        Due.counts("worst", x, 5, 1, 0, 5);
    }
}
