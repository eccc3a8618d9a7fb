/** Promises 21 to 27: THE TEXT, CAUSE, STATES, what was refused, the digest. */
public final class TextsTest {
    public static void main(String[] args) {
        type();
        clear();
        readsEachOrder();
        readsBlanks();
        readsFaults();
        readsLateFaults();
        readsStops();
        readsLeavesOneState();
        readsTheLongest();
        why();
        back();
        backTakesAllBack();
        backKeepsTextCauseAndRefused();
        refusalsCostNoState();
        told();
        digest();
        Due.end();
    }

    private static void type() {
        GearHolds x = new GearHolds();
        Due.is("type(0)", 1, x.type(0));
        Due.is("type(127)", 2, x.type(127));
        Due.is("type(-1)", -2, x.type(-1));
        Due.is("type(128)", -2, x.type(128));
        for (int i = 3; i <= 150; i++) {
            Due.is("type, byte " + i, i, x.type(' '));
        }
        Due.is("type, one too many", -4, x.type(' '));
        Due.is("type(128), BAD ahead of FULL", -2, x.type(128));
        Due.counts("type", x, 3, 0, 1, 0);
        Due.is("bytes", 150, x.told(3));
    }

    private static void clear() {
        GearHolds x = new GearHolds();
        Due.is("clear, empty", 0, x.clear());
        x.type('r');
        x.type('3');
        Due.is("clear", 2, x.clear());
        Due.is("clear again", 0, x.clear());
        Due.is("bytes", 0, x.told(3));
        x.type('s');
        x.type('1');
        x.type(';');
        Due.is("nothing of what was cleared is read", 1, x.reads());
        Due.is("SLOPE", 4, x.state(8));
        Due.is("DRIVER", 0, x.state(9));
        x.clear();
        Due.counts("clear", x, 0, 0, 0, 1);
    }

    private static void readsEachOrder() {
        GearHolds x = new GearHolds();
        Due.is("reads g", 2, Due.reads(x, "g1 3;g002 005;"));
        Due.is("SET", 5, x.of(2, 0));
        Due.is("reads f", 1, Due.reads(x, "f2 1;"));
        Due.is("STATE", 1, x.clutch(2, 0));
        Due.is("reads t", 1, Due.reads(x, "t4 20;"));
        Due.is("TRUE", 20, x.clutch(4, 1));
        Due.is("reads u", 1, Due.reads(x, "u7 300;"));
        Due.is("UP", 300, x.of(7, 2));
        Due.is("reads d", 1, Due.reads(x, "d7 299;"));
        Due.is("DOWN", 299, x.of(7, 3));
        Due.is("reads s", 1, Due.reads(x, "s3;"));
        Due.is("SLOPE 3", 6, x.state(8));
        Due.is("reads s-", 1, Due.reads(x, "s-3;"));
        Due.is("SLOPE -3", 0, x.state(8));
        Due.is("reads s-0", 1, Due.reads(x, "s-0;"));
        Due.is("SLOPE 0", 3, x.state(8));
        Due.is("reads r", 1, Due.reads(x, "r2;"));
        Due.is("DRIVER", 2, x.state(9));
        Due.is("reads v", 1, Due.reads(x, "v300 60;"));
        Due.is("TIME", 60, x.state(1));
        Due.is("IN", 1, x.state(0));
        Due.is("THE TEXT stays", 8, x.told(3));
        Due.is("reads again", 1, x.reads());
        Due.is("TIME", 120, x.state(1));
    }

    private static void readsBlanks() {
        GearHolds x = new GearHolds();
        Due.is("reads with blanks", 2, Due.reads(x, "  g  1   3  ;  s  -2  ;  "));
        Due.is("SET", 3, x.of(1, 0));
        Due.is("SLOPE", 1, x.state(8));
        Due.is("reads, the blank that is needed", 1, Due.reads(x, "g12 3;") == -1000 ? 1 : 0);
        Due.is("reads, blanks behind the last", 1, Due.reads(x, "r1;   "));
    }

    private static void fault(String text, int place) {
        GearHolds x = Due.two();
        long before = x.state(0) + 31L * x.of(1, 0) + 961L * x.state(8);
        Due.is("reads '" + text + "'", -10 - place, Due.reads(x, text));
        Due.is("nothing done by '" + text + "'", before,
                x.state(0) + 31L * x.of(1, 0) + 961L * x.state(8));
        Due.counts("reads '" + text + "'", x, 0, 0, 0, 2);
        Due.is("CAUSE", 0, x.why(0));
        Due.is("CAUSE", -1, x.why(1));
    }

    private static void readsFaults() {
        fault("", 0);
        fault("   ", 3);
        fault("x1;", 0);
        fault("G1 3;", 0);
        fault(";", 0);
        fault("1", 0);
        fault(" 1", 1);
        fault("g", 1);
        fault("g1", 2);
        fault("g1 ", 3);
        fault("g1 3", 4);
        fault("g1 3 ", 5);
        fault("g;", 1);
        fault("g1;", 2);
        fault("g123;", 4);
        fault("g1234;", 4);
        fault("g1 1234;", 6);
        fault("g1 2 3;", 5);
        fault("g1,2;", 2);
        fault("g-1 2;", 1);
        fault("g1 -2;", 3);
        fault("r-1;", 1);
        fault("r1 2;", 3);
        fault("r1234;", 4);
        fault("s", 1);
        fault("s-", 2);
        fault("s-;", 2);
        fault("s- 1;", 2);
        fault("s--1;", 2);
        fault("s+1;", 1);
        fault("s1-;", 2);
        fault("s-1234;", 5);
        fault("s1 2;", 3);
        fault("v1 2:", 4);
        fault("r1\t;", 2);
    }

    private static void readsLateFaults() {
        fault("s1;;", 3);
        fault("s1;r", 4);
        fault("s1; r1", 6);
        fault("s1;r1; 7", 7);
        fault("g1 0;s9999;", 9);
        fault("g8 0;x", 5);
        GearHolds x = new GearHolds();
        StringBuilder longest = new StringBuilder();
        while (longest.length() < 150) {
            longest.append("s1;");
        }
        longest.setLength(149);
        Due.is("reads, the last ; is missing", -159, Due.reads(x, longest.toString()));
        longest.append(' ');
        Due.is("reads, a blank in its place", -160, Due.reads(x, longest.toString()));
    }

    private static void readsStops() {
        GearHolds x = new GearHolds();
        Due.is("reads, BAD", -1000, Due.reads(x, "g8 1;"));
        Due.is("KIND", 2, x.why(0));
        Due.is("ORDER", 0, x.why(1));
        Due.is("reads, NO by an order ahead of it", -1002, Due.reads(x, "r3;g1 3;g2 3;r1;"));
        Due.is("KIND", 3, x.why(0));
        Due.is("ORDER", 2, x.why(1));
        Due.is("nothing done: DRIVER", 0, x.state(9));
        Due.is("nothing done: SET", 0, x.of(1, 0));
        Due.counts("reads counts nothing", x, 0, 0, 0, 0);
        String[] bad = {"g0 1;", "g1 32;", "f5 0;", "f0 3;", "t5 1;", "t0 0;", "t0 21;", "u0 1;",
            "u8 1;", "u1 301;", "d0 1;", "d1 301;", "s4;", "s-4;", "s-999;", "r4;", "v301 1;",
            "v0 0;", "v0 61;"};
        for (String order : bad) {
            Due.is("reads '" + order + "'", -1001, Due.reads(x, "r1;" + order));
            Due.is("KIND of '" + order + "'", 2, x.why(0));
        }
        Due.is("DRIVER", 0, x.state(9));
        GearHolds y = Due.two();
        y.drives(0, 1);
        long before = y.digest();
        Due.text(y, "t2 20;v300 9;v0 1;f0 1;s7;");
        Due.is("reads, stopped behind TICKS", -1004, y.reads());
        y.clear();
        Due.is("IN, TIME, FILL are as before", before - 0, digestWithCause(y, before));
    }

    /** The digest as it would be with the CAUSE that a new object has. */
    private static long digestWithCause(GearHolds x, long same) {
        Due.is("KIND", 2, x.why(0));
        Due.is("ORDER", 4, x.why(1));
        long power = 1;
        for (int i = 0; i < 35 + 20 + 13; i++) {
            power *= 31;
        }
        return x.digest() - power * (31 * 2 + 4 + 1);
    }

    private static void readsLeavesOneState() {
        GearHolds x = new GearHolds();
        Due.is("reads", 3, Due.reads(x, "r1;s1;r2;"));
        Due.counts("reads", x, 0, 0, 0, 1);
        Due.is("back", 0, x.back());
        Due.is("DRIVER", 0, x.state(9));
        Due.is("SLOPE", 3, x.state(8));
    }

    private static void readsTheLongest() {
        GearHolds x = new GearHolds();
        StringBuilder longest = new StringBuilder();
        for (int i = 0; i < 50; i++) {
            longest.append(i == 49 ? "r3;" : "r1;");
        }
        Due.is("reads fifty", 50, Due.reads(x, longest.toString()));
        Due.is("DRIVER", 3, x.state(9));
        longest.setCharAt(148, '4');
        Due.is("reads, the fiftieth stops", -1049, Due.reads(x, longest.toString()));
        Due.is("ORDER", 49, x.why(1));
    }

    private static void why() {
        GearHolds x = new GearHolds();
        Due.reads(x, "r9;");
        Due.is("KIND", 2, x.why(0));
        Due.reads(x, "r1;g1 3;g3 3;");
        Due.is("KIND", 3, x.why(0));
        Due.reads(x, "r1;");
        Due.is("KIND behind orders done", 3, x.why(0));
        Due.is("ORDER behind orders done", 2, x.why(1));
        Due.reads(x, "r;");
        Due.is("KIND behind a FAULT", 3, x.why(0));
        x.back();
        Due.is("KIND behind a STATE back", 3, x.why(0));
        x.gear(8, 1);
        Due.is("KIND behind a call refused", 3, x.why(0));
        Due.is("why(-1)", -2, x.why(-1));
        Due.is("why(2)", -2, x.why(2));
        Due.counts("why", x, 3, 0, 0, 0);
    }

    private static void back() {
        GearHolds x = new GearHolds();
        Due.is("back, none", -3, x.back());
        for (int v = 1; v <= 7; v++) {
            x.up(1, 100 + v);
        }
        Due.is("STATES", 5, x.told(4));
        for (int left = 4; left >= 0; left--) {
            Due.is("back", left, x.back());
            Due.is("UP", 102 + left, x.of(1, 2));
            Due.is("STATES", left, x.told(4));
        }
        Due.is("back, older ones lost", -3, x.back());
        Due.is("UP", 102, x.of(1, 2));
        x.up(1, 7);
        x.up(1, 8);
        Due.is("back", 1, x.back());
        x.up(1, 9);
        Due.is("back, not to what was taken back", 1, x.back());
        Due.is("UP", 7, x.of(1, 2));
        Due.is("back", 0, x.back());
        Due.is("UP", 102, x.of(1, 2));
        x.up(1, 102);
        Due.is("a STATE also if nothing changes", 1, x.told(4));
        Due.counts("back", x, 0, 2, 0, 1);
    }

    private static void backTakesAllBack() {
        GearHolds x = Due.two();
        x.trues(2, 12);
        x.puts(1);
        x.drives(300, 1);
        x.trues(1, 2);
        x.drives(0, 1);
        x.slope(1);
        long before = x.digest();
        Due.is("reads", 12, Due.reads(x, "g7 16;f1 2;t3 3;u2 9;d2 8;s2;r3;v300 20;v0 3;v300 1;f0 1;g1 0;"));
        x.sets(0, 9);
        x.sets(1, 3);
        x.puts(0);
        for (int i = 0; i < 4; i++) {
            x.back();
        }
        x.clear();
        Due.is("STATES", 1, x.told(4));
        x.back();
        x.slope(1);
        for (int i = 0; i < 4; i++) {
            x.slope(1);
        }
        Due.is("all is as it was", before, x.digest());
    }

    private static void backKeepsTextCauseAndRefused() {
        GearHolds x = new GearHolds();
        x.slope(1);
        x.slope(9);
        Due.reads(x, "s1;r9;");
        x.back();
        Due.is("THE TEXT", 6, x.told(3));
        Due.is("BAD", 1, x.told(0));
        Due.is("KIND", 2, x.why(0));
        Due.is("ORDER", 1, x.why(1));
    }

    private static void refusalsCostNoState() {
        GearHolds x = new GearHolds();
        for (int v = 1; v <= 5; v++) {
            x.up(1, 100 + v);
        }
        x.up(1, 301);
        x.gear(1, 3);
        x.gear(2, 3);
        x.puts(7);
        Due.reads(x, "r1;r4;");
        Due.reads(x, "r1");
        for (int left = 4; left >= 0; left--) {
            Due.is("back", left, x.back());
        }
        Due.is("UP, the oldest", 101, x.of(1, 2));
    }

    private static void told() {
        GearHolds x = new GearHolds();
        x.of(9, 9);
        x.back();
        x.back();
        Due.text(x, "r1");
        x.slope(1);
        Due.is("told(0)", 1, x.told(0));
        Due.is("told(1)", 2, x.told(1));
        Due.is("told(2)", 0, x.told(2));
        Due.is("told(3)", 2, x.told(3));
        Due.is("told(4)", 1, x.told(4));
        Due.is("told(-1)", -2, x.told(-1));
        Due.is("told(5)", -2, x.told(5));
        Due.is("told(0), itself refused", 3, x.told(0));
    }

    private static void digest() {
        GearHolds x = Due.six();
        x.drives(300, 6);
        Due.reads(x, "s1;s9;");
        x.of(0, 0);
        long h = 2411;
        for (int what = 0; what <= 4; what++) {
            h = 31 * h + x.told(what);
        }
        h = 31 * (31 * h + x.why(0)) + x.why(1);
        for (int g = 1; g <= 7; g++) {
            for (int what = 0; what <= 4; what++) {
                h = 31 * h + x.of(g, what);
            }
        }
        for (int c = 0; c < 5; c++) {
            for (int what = 0; what <= 3; what++) {
                h = 31 * h + x.clutch(c, what);
            }
        }
        for (int what = 0; what <= 12; what++) {
            h = 31 * h + x.state(what);
        }
        Due.is("digest", h, x.digest());
        Due.is("digest again, it changes nothing", h, x.digest());
        Due.is("digests of like objects", new GearHolds().digest(), new GearHolds().digest());
    }
}
