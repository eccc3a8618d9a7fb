/**
 * The boundary cases of promises 21 to 27 and of what the Terms tell of THE TEXT, CAUSE and STATES:
 * a test for each sentence that names one; the remark ahead of a test tells its words.
 */
public final class TextBoundsTest {
    private static final int NONE = -1, BAD = -2, NO = -3, FULL = -4;
    private static final String LETTERS = "gftudsrv", FIGURES = "0123456789";

    public static void main(String[] args) {
        typing();
        clearing();
        reading();
        grammar();
        stopping();
        causes();
        states();
        counting();
        digests();
        Due.end();
    }

    private static void typing() {
        typeTheLeastAndTheGreatestByte();
        typeAnswersHowMany();
        typeBehindTheLast();
        typeIsBadAheadOfFull();
        typeLeavesNoState();
        typeAgainBehindClear();
    }

    private static void clearing() {
        clearAnEmptyText();
        clearAFullText();
        clearLeavesNoState();
    }

    private static void reading() {
        readsAnEmptyText();
        readsBlanksAlone();
        readsOneOrder();
        readsAsManyOrdersAsThereCanBe();
        readsAndTheTextStays();
        readsLeavesOneStateForAll();
        readsWithAFaultAtTheFirstByte();
        readsWithAFaultAtTheLastByte();
        readsWithAFaultBehindTheLastByte();
    }

    private static void grammar() {
        bytesThatCanStand();
        textsThatEndTooEarly();
        numbersOfOneToThreeFigures();
        numbersOfFourFigures();
        numbersOfNoFigure();
        blanksAnywhereButWithinANumber();
        blanksWithinANumber();
        blanksBehindAMinus();
        blanksThatAreNeeded();
        minusAheadOfSlopeAlone();
        minusZero();
        faultsDoNothing();
        faultsGoAheadOfOrdersThatStop();
    }

    private static void stopping() {
        ordersAtTheirLeastAndGreatest();
        ordersOutside();
        ordersThatStopDoNothing();
        ordersByWhatOrdersDidBefore();
        ordersStoppedByTheFirst();
        ordersStoppedByTheLast();
        ordersAreBadAheadOfNo();
        ordersDropIn();
    }

    private static void causes() {
        causeAtFirst();
        causeOfEachKind();
        causeStays();
        whyEachWhat();
    }

    private static void states() {
        backWithoutAState();
        backFromOneToFive();
        backBehindMoreThanFive();
        backRoundAndRound();
        backTakesAllButTextCauseAndRefused();
        statesAlsoIfNothingChanges();
        statesOfCallsNotToldS();
        refusedLeavesNoState();
    }

    private static void counting() {
        toldEachWhat();
        toldOutsideCountsItself();
        toldEachKindApart();
        questionsRefusedCount();
    }

    private static void digests() {
        digestOfANewObject();
        digestOfEachValue();
        digestChangesNothing();
    }

    private static String times(String part, int times) {
        return part.repeat(times);
    }

    private static GearHolds typed(String text) {
        GearHolds x = Due.two();
        Due.text(x, text);
        return x;
    }

    /** THE TEXT has 150 bytes, fifty ORDERS. */
    private static GearHolds full() {
        return typed(times("r2;", 50));
    }

    private static void reads(String text, int due) {
        Due.is("reads '" + text + "'", due, typed(text).reads());
    }

    private static void fault(String text, int place) {
        reads(text, -10 - place);
    }

    // ---- type

    /** Promise 21: "A byte (0 .. 127)". "BAD". */
    private static void typeTheLeastAndTheGreatestByte() {
        Bounds.within("p21: type(c)", 0, 127, Bounds::busy, (x, c) -> x.type(c));
        Bounds.within("p21: type(c), empty", 0, 127, GearHolds::new, (x, c) -> x.type(c));
    }

    /** Promise 21: "comes behind THE TEXT: how many it has": 1, 2, .. 150; 0 and 127 count, too. */
    private static void typeAnswersHowMany() {
        GearHolds x = new GearHolds();
        Due.is("p21: type, the first", 1, x.type(0));
        Due.is("p21: type, the second", 2, x.type(127));
        for (int i = 3; i <= 150; i++) {
            Due.is("p21: type", i, x.type(' '));
        }
        Due.is("p21: bytes", 150, x.told(3));
        Due.counts("p21", x, 0, 0, 0, 0);
    }

    /** Promise 21: "FULL: 150", Terms: "(150 bytes at most)"; THE TEXT stays as it is. */
    private static void typeBehindTheLast() {
        Bounds.refused("p21: type, full", FULL, TextBoundsTest::full, x -> x.type(';'));
        Bounds.refused("p21: type, full", FULL, TextBoundsTest::full, x -> x.type(0));
        Bounds.refused("p21: type, full", FULL, TextBoundsTest::full, x -> x.type(127));
        GearHolds x = typed(times("r2;", 49) + "r2 ");
        Due.is("p21: type, full", FULL, x.type(';'));
        Due.is("p21: reads", -160, x.reads());
        Due.is("p21: bytes", 150, x.told(3));
        GearHolds y = typed(times("r2;", 49) + "r2");
        Due.is("p21: type, one less", 150, y.type(';'));
        Due.is("p21: reads", 50, y.reads());
    }

    /** Promise 21, Terms 2: "the first of: BAD ..; FULL ..": a byte outside behind a full TEXT. */
    private static void typeIsBadAheadOfFull() {
        Bounds.refused("p21: type(-1), full", BAD, TextBoundsTest::full, x -> x.type(-1));
        Bounds.refused("p21: type(128), full", BAD, TextBoundsTest::full, x -> x.type(128));
    }

    /** Promise 21: not told S. */
    private static void typeLeavesNoState() {
        GearHolds x = new GearHolds();
        x.type('r');
        Due.is("p21: STATES", 0, x.told(4));
        Due.is("p21: back", NO, x.back());
        Due.is("p21: bytes", 1, x.told(3));
    }

    /** Promises 21, 22: THE TEXT that was full and is empty takes 150 bytes again. */
    private static void typeAgainBehindClear() {
        GearHolds x = full();
        x.clear();
        Due.is("p21: type, the first again", 1, x.type('r'));
        for (int i = 2; i <= 150; i++) {
            Due.is("p21: type again", i, x.type(i % 3 == 0 ? ';' : i % 3 == 2 ? '3' : 'r'));
        }
        Due.is("p21: type, full again", FULL, x.type('r'));
        Due.is("p21: reads", 50, x.reads());
        Due.is("p21: DRIVER", 3, x.state(9));
    }

    // ---- clear

    /** Promise 22: "THE TEXT is empty: how many it had": 0, that is no refusal. */
    private static void clearAnEmptyText() {
        Bounds.asked("p22: clear, empty", 0, Due::two, x -> x.clear());
        GearHolds x = new GearHolds();
        Due.is("p22: clear, new", 0, x.clear());
        x.type('r');
        Due.is("p22: clear, one", 1, x.clear());
        Due.is("p22: clear, empty again", 0, x.clear());
    }

    /** Promise 22: "how many it had": 150; nothing of it is read then. */
    private static void clearAFullText() {
        GearHolds x = full();
        Due.is("p22: clear, full", 150, x.clear());
        Due.is("p22: bytes", 0, x.told(3));
        Due.is("p22: reads", -10, x.reads());
        Due.is("p22: DRIVER", 0, x.state(9));
        x.type('r');
        Due.is("p22: reads, one byte", -11, x.reads());
    }

    /** Promise 22: not told S; CAUSE and what is refused stay. */
    private static void clearLeavesNoState() {
        GearHolds x = typed("r4;");
        x.reads();
        x.slope(9);
        x.clear();
        Due.counts("p22: clear", x, 1, 0, 0, 2);
        Due.is("p22: KIND", 2, x.why(0));
        Due.is("p22: ORDER", 0, x.why(1));
    }

    // ---- reads

    /** Promise 23, Terms 2: "the TEXT's length, if it ends too early (an empty one .., too)". */
    private static void readsAnEmptyText() {
        Bounds.asked("p23: reads, empty", -10, Due::two, x -> x.reads());
        Bounds.asked("p23: reads, new", -10, GearHolds::new, x -> x.reads());
    }

    /**
     * Promise 23, Terms 2: "the TEXT's length, if it ends too early (.. one of blanks alone, too)":
     * 1 and 150.
     */
    private static void readsBlanksAlone() {
        Bounds.asked("p23: reads, a blank", -11, () -> typed(" "), x -> x.reads());
        Bounds.asked("p23: reads, full of blanks", -160, () -> typed(times(" ", 150)), x -> x.reads());
    }

    /** Promise 23: "ORDERS are done ..: how many": the shortest ORDER alone. */
    private static void readsOneOrder() {
        reads("r1;", 1);
        reads("s1;", 1);
        reads("g7 0;", 1);
    }

    /** Promise 23: "how many", Terms: "(150 bytes at most)": fifty, the last of them done, too. */
    private static void readsAsManyOrdersAsThereCanBe() {
        GearHolds x = typed(times("r2;", 49) + "s3;");
        Due.is("p23: reads, full", 50, x.reads());
        Due.is("p23: the first was done", 2, x.state(9));
        Due.is("p23: the last was done", 6, x.state(8));
        GearHolds y = typed(times(" ", 147) + "r3;");
        Due.is("p23: reads, one at the end", 1, y.reads());
        Due.is("p23: it was done", 3, y.state(9));
        GearHolds z = typed("r3;" + times(" ", 147));
        Due.is("p23: reads, blanks to the end", 1, z.reads());
        Due.is("p23: it was done", 3, z.state(9));
    }

    /** Promise 23: "(THE TEXT stays)": done, with a FAULT, stopped. */
    private static void readsAndTheTextStays() {
        String[] texts = {"v9 60;", "v9 60", "v9 61;"};
        int[] due = {1, -15, -1000};
        for (int i = 0; i < texts.length; i++) {
            GearHolds x = typed(texts[i]);
            int bytes = texts[i].length();
            Due.is("p23: reads '" + texts[i] + "'", due[i], x.reads());
            Due.is("p23: bytes", bytes, x.told(3));
            Due.is("p23: reads again '" + texts[i] + "'", due[i], x.reads());
            Due.is("p23: TIME", i == 0 ? 120 : 0, x.state(1));
            Due.is("p23: type behind it", bytes + 1, x.type(' '));
        }
    }

    /** Promise 23: "S (one STATE for all)": of one ORDER, of many, and where nothing changes. */
    private static void readsLeavesOneStateForAll() {
        Bounds.left("p23: reads", 1, () -> typed("r3;"), x -> x.reads());
        Bounds.left("p23: reads, many", 5, () -> typed("r3;s-3;g7 31;f4 2;v300 60;"), x -> x.reads());
        Bounds.left("p23: reads, fifty", 50, TextBoundsTest::full, x -> x.reads());
        Bounds.left("p23: reads, nothing changes", 1, () -> typed("r0;"), x -> x.reads());
        GearHolds x = typed("r1;r2;r3;");
        for (int v = 1; v <= 6; v++) {
            x.up(1, v);
        }
        x.reads();
        Due.is("p23: STATES, five at most", 5, x.told(4));
        for (int left = 4; left >= 0; left--) {
            x.back();
            Due.is("p23: UP", left == 4 ? 6 : left + 2, x.of(1, 2));
            Due.is("p23: DRIVER", 0, x.state(9));
        }
    }

    /** Promise 23: "-10 less the FAULT", Terms: "the place of the first byte": place 0. */
    private static void readsWithAFaultAtTheFirstByte() {
        fault(";", 0);
        fault("1r;", 0);
        fault("\0r1;", 0);
        fault("\177", 0);
        fault("-", 0);
        fault("x" + times("r1;", 49), 0);
    }

    /**
     * Promise 23, Terms 2: "the place of the first byte that can not stand there": the last byte of
     * a full TEXT.
     */
    private static void readsWithAFaultAtTheLastByte() {
        fault(times("r1;", 49) + "r1r", 149);
        fault(times("r1;", 49) + "s1-", 149);
        fault(times(" ", 149) + "x", 149);
        fault("r1;" + times(" ", 146) + "1", 149);
    }

    /** Promise 23, Terms 2: "the TEXT's length, if it ends too early": of a full TEXT it is 150. */
    private static void readsWithAFaultBehindTheLastByte() {
        fault(times("r1;", 49) + "r 1", 150);
        fault(times("r1;", 49) + "  r", 150);
        fault("r" + times(" ", 149), 150);
        fault("g1 3" + times(" ", 146), 150);
    }

    // ---- what can stand

    /**
     * Promise 23, Terms 2: "FAULT: the place of the first byte that can not stand there": all
     * bytes, at each kind of place.
     */
    private static void bytesThatCanStand() {
        canStand("", LETTERS + " ");
        canStand("  ", LETTERS + " ");
        canStand("r1;", LETTERS + " ");
        canStand("r1; ", LETTERS + " ");
        for (int i = 0; i < LETTERS.length(); i++) {
            char letter = LETTERS.charAt(i);
            canStand("" + letter, FIGURES + (letter == 's' ? " -" : " "));
            canStand(letter + " ", FIGURES + (letter == 's' ? " -" : " "));
            boolean one = letter == 's' || letter == 'r';
            canStand(letter + "1", FIGURES + (one ? " ;" : " "));
            canStand(letter + "12", FIGURES + (one ? " ;" : " "));
            canStand(letter + "123", one ? " ;" : " ");
            canStand(letter + "1 ", one ? " ;" : FIGURES + " ");
            if (!one) {
                canStand(letter + "1 1", FIGURES + " ;");
                canStand(letter + "1 12", FIGURES + " ;");
                canStand(letter + "1 123", " ;");
                canStand(letter + "1 1 ", " ;");
            }
        }
        canStand("s-", FIGURES);
        canStand("s -", FIGURES);
        canStand("s-1", FIGURES + " ;");
        canStand("s-123", " ;");
        canStand("s-1 ", " ;");
    }

    private static void canStand(String ahead, String bytes) {
        int fault = -10 - ahead.length();
        for (char c = 0; c <= 127; c++) {
            GearHolds x = typed(ahead + c);
            boolean due = bytes.indexOf(c) >= 0;
            Due.is("byte " + (int) c + " can stand behind '" + ahead + "'", due ? 1 : 0,
                    x.reads() == fault ? 0 : 1);
        }
    }

    /**
     * Promise 23, Terms 2: "the TEXT's length, if it ends too early": each part of a TEXT but those
     * of whole ORDERS.
     */
    private static void textsThatEndTooEarly() {
        String text = " g 7 16 ; s -1 ;v300 60;f0 1;t4 20;u7 300;d1 0;r3;";
        int orders = 0;
        for (int length = 0; length <= text.length(); length++) {
            String part = text.substring(0, length);
            orders += part.endsWith(";") ? 1 : 0;
            boolean whole = part.trim().endsWith(";");
            reads(part, whole ? orders : -10 - length);
        }
        Due.is("ORDERS", 8, orders);
    }

    /** Promise 23, Terms 2: "Numbers have 1 to 3 figures": noughts ahead count as figures. */
    private static void numbersOfOneToThreeFigures() {
        String[] texts = {"r3;", "r03;", "r003;", "s-3;", "s-03;", "s-003;"};
        int[] driver = {3, 3, 3, 0, 0, 0};
        for (int i = 0; i < texts.length; i++) {
            GearHolds x = typed(texts[i]);
            Due.is("reads '" + texts[i] + "'", 1, x.reads());
            Due.is("DRIVER", driver[i], x.state(9));
            Due.is("SLOPE", i < 3 ? 3 : 0, x.state(8));
        }
        reads("u1 300;", 1);
        reads("u001 000;", 1);
        reads("g7 031;", 1);
        reads("v000 060;", 1);
        reads("u1 999;", -1000);
        reads("r999;", -1000);
        reads("s-999;", -1000);
        reads("s999;", -1000);
    }

    /**
     * Promise 23, Terms 2: "(a fourth figure, too)": its place is the FAULT, in each number of each
     * ORDER.
     */
    private static void numbersOfFourFigures() {
        fault("r0001;", 4);
        fault("s0001;", 4);
        fault("s-0001;", 5);
        fault("s -0001;", 6);
        for (int i = 0; i < LETTERS.length(); i++) {
            char letter = LETTERS.charAt(i);
            if (letter != 's' && letter != 'r') {
                fault(letter + "0001 1;", 4);
                fault(letter + "1 0001;", 6);
                fault(letter + "1 1000", 6);
                fault(letter + "12345", 4);
            }
        }
    }

    /**
     * Promise 23, Terms 2: "Numbers have 1 to 3 figures": none is too few, in each number of each
     * ORDER.
     */
    private static void numbersOfNoFigure() {
        fault("r;", 1);
        fault("s;", 1);
        fault("s-;", 2);
        for (int i = 0; i < LETTERS.length(); i++) {
            char letter = LETTERS.charAt(i);
            if (letter != 's' && letter != 'r') {
                fault(letter + ";", 1);
                fault(letter + "1;", 2);
                fault(letter + "1 ;", 3);
                fault(letter + " 1 ;", 4);
            }
        }
    }

    /**
     * Promise 23, Terms 2: "blanks (32) may stand anywhere but within a number (none behind a -)":
     * one, and many.
     */
    private static void blanksAnywhereButWithinANumber() {
        String[] parts = {"", "g", "7", " ", "16", ";", "s", "-3", ";", "v", "300", " ", "60", ";", "r", "3", ";", ""};
        for (int at = 1; at < parts.length; at++) {
            for (int many = 1; many <= 100; many += 33) {
                StringBuilder text = new StringBuilder();
                for (int i = 0; i < parts.length; i++) {
                    text.append(i == at ? times(" ", many) : "").append(parts[i]);
                }
                blanksDoNothing(text.toString());
            }
        }
        blanksDoNothing(" g 7 16 ; s -3 ; v 300 60 ; r 3 ; ");
    }

    private static void blanksDoNothing(String text) {
        GearHolds x = typed(text);
        Due.is("reads '" + text + "'", 4, x.reads());
        Due.is("SET of '" + text + "'", 16, x.of(7, 0));
        Due.is("SLOPE of '" + text + "'", 0, x.state(8));
        Due.is("TIME of '" + text + "'", 60, x.state(1));
        Due.is("DRIVER of '" + text + "'", 3, x.state(9));
    }

    /** Promise 23, Terms 2: "anywhere but within a number": figures behind a blank are another number. */
    private static void blanksWithinANumber() {
        fault("r0 3;", 3);
        fault("s-0 3;", 4);
        fault("g7 1 6;", 5);
        fault("v300 6 0;", 7);
        GearHolds x = typed("v3 00 60;");
        Due.is("reads, a third number", -16, x.reads());
        GearHolds y = typed("u1 2;");
        Due.is("reads, a blank makes two numbers", 1, y.reads());
        Due.is("UP", 2, y.of(1, 2));
    }

    /** Promise 23, Terms 2: "(none behind a -)". */
    private static void blanksBehindAMinus() {
        fault("s- 1;", 2);
        fault("s-  1;", 2);
        fault("s - 1;", 3);
        fault("s- ", 2);
        reads("s -1;", 1);
        reads("s  -1;", 1);
    }

    /** Promise 23, Terms 2: "needed only where figures of two numbers would else stand side by side". */
    private static void blanksThatAreNeeded() {
        fault("g73;", 3);
        fault("v30060;", 4);
        reads("g7 3;", -1000);
        reads("g7 16;f0 1;t0 1;u1 2;d1 2;s1;s-1;r1;v1 1;", 9);
    }

    /** Promise 23, Terms 2: "s SLOPE, perhaps - ahead": of no other number, and one alone. */
    private static void minusAheadOfSlopeAlone() {
        reads("s-3;", 1);
        reads("s3;", 1);
        fault("s--3;", 2);
        fault("s3-;", 2);
        fault("-s3;", 0);
        fault("s+3;", 1);
        for (int i = 0; i < LETTERS.length(); i++) {
            char letter = LETTERS.charAt(i);
            if (letter != 's') {
                fault(letter + "-1 1;", 1);
            }
            if (letter != 's' && letter != 'r') {
                fault(letter + "1 -1;", 3);
                fault(letter + "1-1;", 2);
            }
        }
    }

    /**
     * Promise 23, Terms 2: "perhaps - ahead": ahead of nought, too; and of the least SLOPE and one
     * less.
     */
    private static void minusZero() {
        GearHolds x = typed("s3;s-0;");
        Due.is("reads s-0", 2, x.reads());
        Due.is("SLOPE", 3, x.state(8));
        reads("s-3;", 1);
        reads("s-4;", -1000);
    }

    /** Promise 23, Terms 2: "If there is one, nothing is done", "By .. a FAULT of it nothing counts". */
    private static void faultsDoNothing() {
        String[] texts = {"g7 16;v300 60;f0 1;r", "r3;x", "g1 0;g2 0;r1234;", "v300 1;;"};
        int[] places = {20, 3, 14, 7};
        for (int i = 0; i < texts.length; i++) {
            String text = texts[i];
            Bounds.asked("reads '" + text + "'", -10 - places[i], () -> busyWith(text), x -> x.reads());
        }
    }

    private static GearHolds busyWith(String text) {
        GearHolds x = Bounds.busy();
        Due.text(x, text);
        return x;
    }

    /**
     * Promise 23, Terms 2: "If there is one, nothing is done": an ORDER ahead that would be refused
     * does not stop it.
     */
    private static void faultsGoAheadOfOrdersThatStop() {
        GearHolds x = typed("g8 0;r4;x");
        Due.is("reads", -18, x.reads());
        Due.is("KIND", 0, x.why(0));
        Due.is("ORDER", NONE, x.why(1));
        Due.is("BAD", 0, x.told(0));
    }

    // ---- ORDERS

    private static void order(String text, Bounds.Call call) {
        GearHolds due = Due.two();
        GearHolds got = typed(text);
        Due.text(due, text);
        int answer = call.on(due);
        boolean done = answer >= 0;
        Due.is("reads '" + text + "'", done ? 1 : -1000, got.reads());
        Due.is("KIND of '" + text + "'", done ? 0 : -answer, got.why(0));
        Due.is("ORDER of '" + text + "'", done ? NONE : 0, got.why(1));
        Due.counts("reads '" + text + "'", got, 0, 0, 0, done ? 3 : 2);
        for (int what = 0; what <= 12; what++) {
            Due.is("state(" + what + ") of '" + text + "'", due.state(what), got.state(what));
        }
        if (done) {
            Bounds.alike("'" + text + "'", due, got);
        }
    }

    /**
     * Promise 23, Terms 2: "g GEAR SET (as gear); .. v speed n (as drives)": the least and the
     * greatest of each.
     */
    private static void ordersAtTheirLeastAndGreatest() {
        order("g1 0;", x -> x.gear(1, 0));
        order("g7 31;", x -> x.gear(7, 31));
        order("f0 0;", x -> x.fails(0, 0));
        order("f4 2;", x -> x.fails(4, 2));
        order("t0 1;", x -> x.trues(0, 1));
        order("t4 20;", x -> x.trues(4, 20));
        order("u1 0;", x -> x.up(1, 0));
        order("u7 300;", x -> x.up(7, 300));
        order("d1 0;", x -> x.down(1, 0));
        order("d7 300;", x -> x.down(7, 300));
        order("s-3;", x -> x.slope(-3));
        order("s3;", x -> x.slope(3));
        order("r0;", x -> x.driver(0));
        order("r3;", x -> x.driver(3));
        order("v0 1;", x -> x.drives(0, 1));
        order("v300 60;", x -> x.drives(300, 60));
    }

    /**
     * Promise 23, Terms 2: "An ORDER that its call would refuse": one outside, of each number of
     * each ORDER.
     */
    private static void ordersOutside() {
        order("g0 1;", x -> x.gear(0, 1));
        order("g8 1;", x -> x.gear(8, 1));
        order("g7 32;", x -> x.gear(7, 32));
        order("g7 3;", x -> x.gear(7, 3));
        order("f5 0;", x -> x.fails(5, 0));
        order("f4 3;", x -> x.fails(4, 3));
        order("t5 1;", x -> x.trues(5, 1));
        order("t0 0;", x -> x.trues(0, 0));
        order("t0 21;", x -> x.trues(0, 21));
        order("u0 1;", x -> x.up(0, 1));
        order("u8 1;", x -> x.up(8, 1));
        order("u7 301;", x -> x.up(7, 301));
        order("d0 1;", x -> x.down(0, 1));
        order("d8 1;", x -> x.down(8, 1));
        order("d7 301;", x -> x.down(7, 301));
        order("s-4;", x -> x.slope(-4));
        order("s4;", x -> x.slope(4));
        order("r4;", x -> x.driver(4));
        order("v301 1;", x -> x.drives(301, 1));
        order("v0 0;", x -> x.drives(0, 0));
        order("v0 61;", x -> x.drives(0, 61));
        order("r999;", x -> x.driver(999));
        order("s-999;", x -> x.slope(-999));
    }

    /**
     * Promise 23, Terms 2: "stops all: nothing is done", "By what THE TEXT tells .. nothing
     * counts"; CAUSE is as before.
     */
    private static void ordersThatStopDoNothing() {
        String[] texts = {"v300 60;g7 3;", "f0 1;g7 12;r3;", "g1 0;g7 5;g1 3;"};
        for (String text : texts) {
            Bounds.asked("reads '" + text + "'", -1001, () -> busyWith(text), x -> x.reads());
        }
        GearHolds x = Bounds.busy();
        Due.is("KIND of the busy one", 3, x.why(0));
        Due.is("ORDER of the busy one", 1, x.why(1));
    }

    /**
     * Promise 23, Terms 2: "An ORDER that its call would refuse", behind those ahead of it, not
     * ahead of them.
     */
    private static void ordersByWhatOrdersDidBefore() {
        reads("g6 16;g7 16;", -1001);
        reads("g1 0;g7 3;", 2);
        reads("g7 3;g1 0;", -1000);
        reads("g1 16;g2 3;g1 5;", 3);
    }

    /**
     * Promise 23: "-1000 less the number (0 on) of the ORDER that stops all": the first, the first
     * of two.
     */
    private static void ordersStoppedByTheFirst() {
        reads("r4;", -1000);
        reads("r4;" + times("r1;", 49), -1000);
        reads("r1;g1 5;r4;", -1001);
        GearHolds x = typed("r1;g1 5;r4;");
        x.reads();
        Due.is("KIND, the first of two", 3, x.why(0));
        Due.is("ORDER, the first of two", 1, x.why(1));
    }

    /** Promise 23: "-1000 less the number (0 on)": the last of as many as there can be. */
    private static void ordersStoppedByTheLast() {
        GearHolds x = typed(times("r2;", 49) + "r4;");
        Due.is("reads", -1049, x.reads());
        Due.is("KIND", 2, x.why(0));
        Due.is("ORDER", 49, x.why(1));
        Due.is("DRIVER", 0, x.state(9));
        Due.counts("reads", x, 0, 0, 0, 2);
    }

    /** Promise 23, Terms 2: "the first of: BAD ..; NO ..": CAUSE of an ORDER that is both is 2. */
    private static void ordersAreBadAheadOfNo() {
        GearHolds x = typed("g8 3;");
        Due.is("reads", -1000, x.reads());
        Due.is("KIND", 2, x.why(0));
    }

    /** Promise 23, Terms 2: "IN becomes NEUTRAL at once": between ORDERS, too. */
    private static void ordersDropIn() {
        GearHolds x = typed("f1 1;f1 0;");
        x.puts(1);
        Due.is("reads", 2, x.reads());
        Due.is("IN, dropped by the first ORDER", 0, x.state(0));
        GearHolds y = typed("g1 0;g1 3;v0 1;");
        y.puts(1);
        Due.is("reads", 3, y.reads());
        Due.is("IN, from NEUTRAL", 1, y.state(0));
        Due.is("SHIFTS", 0, y.state(4));
    }

    // ---- CAUSE

    /** Promise 24, Terms 2: "KIND (0 at first", promise 24: "ORDER (1; NONE at first)". */
    private static void causeAtFirst() {
        GearHolds x = new GearHolds();
        Due.is("p24: KIND", 0, x.why(0));
        Due.is("p24: ORDER", NONE, x.why(1));
    }

    /**
     * Promise 24, Terms 2: "2 a number was not as told, 3 as NO tells", "ORDER (its number, from 0
     * on)".
     */
    private static void causeOfEachKind() {
        GearHolds x = typed("s4;");
        x.reads();
        Due.is("p24: KIND, BAD", 2, x.why(0));
        Due.is("p24: ORDER, the first", 0, x.why(1));
        Due.text(x, "r1;s1;g7 3;");
        x.reads();
        Due.is("p24: KIND, NO", 3, x.why(0));
        Due.is("p24: ORDER, the third", 2, x.why(1));
        Due.text(x, "r1;s4;");
        x.reads();
        Due.is("p24: KIND, the last one", 2, x.why(0));
        Due.is("p24: ORDER, the last one", 1, x.why(1));
    }

    /**
     * Promise 24, Terms 2: "(as it is behind ORDERS that are all done, behind a FAULT, a STATE
     * back, too)".
     */
    private static void causeStays() {
        GearHolds x = typed("r1;g7 3;");
        x.reads();
        String[] texts = {"r1;", "r1;s1;u1 9;", "", "  ", "r1;s4;x", "r1;s4"};
        for (String text : texts) {
            Due.text(x, text);
            x.reads();
            Due.is("p24: KIND behind '" + text + "'", 3, x.why(0));
            Due.is("p24: ORDER behind '" + text + "'", 1, x.why(1));
        }
        for (int i = 0; i < 6; i++) {
            x.back();
            Due.is("p24: KIND behind back", 3, x.why(0));
            Due.is("p24: ORDER behind back", 1, x.why(1));
        }
        x.slope(4);
        x.gear(1, 3);
        x.gear(2, 3);
        Due.is("p24: KIND behind a call refused", 3, x.why(0));
        Due.is("p24: ORDER behind a call refused", 1, x.why(1));
    }

    /** Promise 24: "KIND (0), ORDER (1 ..). BAD". */
    private static void whyEachWhat() {
        Bounds.within("p24: why(what)", 0, 1, Bounds::busy, (x, what) -> x.why(what));
        Bounds.asked("p24: why(0)", 3, Bounds::busy, x -> x.why(0));
        Bounds.asked("p24: why(1)", 1, Bounds::busy, x -> x.why(1));
    }

    // ---- STATES

    /** Promise 25: "NO: none": of a new object, behind refusals, behind the last one back. */
    private static void backWithoutAState() {
        Bounds.refused("p25: back, new", NO, GearHolds::new, x -> x.back());
        Bounds.refused("p25: back, refused alone", NO, TextBoundsTest::refusedOnce, x -> x.back());
        Bounds.refused("p25: back, all are back", NO, TextBoundsTest::allBack, x -> x.back());
    }

    private static GearHolds refusedOnce() {
        GearHolds x = new GearHolds();
        x.slope(4);
        x.puts(1);
        return x;
    }

    private static GearHolds allBack() {
        GearHolds x = Bounds.busy();
        for (int i = 0; i < 5; i++) {
            x.back();
        }
        return x;
    }

    /** An object with UP of GEAR 7 set to 1, 2, .. in turn. */
    private static GearHolds counted(int calls) {
        GearHolds x = new GearHolds();
        for (int v = 1; v <= calls; v++) {
            x.up(7, v);
        }
        return x;
    }

    /** Promise 25, Terms 2: "leaves one .. to go back to", "5 at most": none lost up to five. */
    private static void backFromOneToFive() {
        for (int calls = 1; calls <= 5; calls++) {
            GearHolds x = counted(calls);
            Due.is("p25: STATES", calls, x.told(4));
            for (int left = calls - 1; left >= 0; left--) {
                Due.is("p25: back", left, x.back());
                Due.is("p25: UP", left == 0 ? 140 : left, x.of(7, 2));
            }
            Due.is("p25: back, none", NO, x.back());
        }
    }

    /** Promise 25, Terms 2: "5 at most, older ones lost": with the sixth the first is lost, and so on. */
    private static void backBehindMoreThanFive() {
        for (int calls = 6; calls <= 20; calls++) {
            GearHolds x = counted(calls);
            Due.is("p25: STATES", 5, x.told(4));
            for (int left = 4; left >= 0; left--) {
                Due.is("p25: back", left, x.back());
                Due.is("p25: UP", calls - 5 + left, x.of(7, 2));
            }
            Due.is("p25: back, the older ones are lost", NO, x.back());
            Due.is("p25: UP stays", calls - 5, x.of(7, 2));
        }
    }

    /** Promise 25: "A STATE back": what was taken back is gone, new ones come in its place. */
    private static void backRoundAndRound() {
        for (int backs = 1; backs <= 5; backs++) {
            GearHolds x = counted(7);
            for (int i = 0; i < backs; i++) {
                x.back();
            }
            for (int v = 101; v <= 103; v++) {
                x.up(7, v);
            }
            int states = Math.min(5, 5 - backs + 3);
            Due.is("p25: STATES", states, x.told(4));
            int[] older = {103, 102, 101, 7 - backs, 6 - backs, 5 - backs, 4 - backs};
            for (int i = 1; i <= states; i++) {
                Due.is("p25: back", states - i, x.back());
                Due.is("p25: UP, " + backs + " back, then 3 on, " + i + " back", older[i], x.of(7, 2));
            }
            Due.is("p25: back, none", NO, x.back());
        }
    }

    /** Promise 25, Terms 2: "(all but THE TEXT, CAUSE, how often refused)". */
    private static void backTakesAllButTextCauseAndRefused() {
        Bounds.left("p25: all goes back", 8, TextBoundsTest::typedAllOrders, x -> x.reads());
        GearHolds x = counted(1);
        x.slope(4);
        x.puts(1);
        Due.text(x, "r1;s4;");
        x.reads();
        Due.is("p25: back", 0, x.back());
        Due.is("p25: UP", 140, x.of(7, 2));
        Due.counts("p25: refused stays", x, 1, 1, 0, 0);
        Due.is("p25: bytes stay", 6, x.told(3));
        Due.is("p25: reads them", -1001, x.reads());
        Due.is("p25: KIND stays", 2, x.why(0));
        Due.is("p25: ORDER stays", 1, x.why(1));
        GearHolds y = full();
        y.type('r');
        y.back();
        Due.counts("p25: FULL stays", y, 0, 0, 1, 1);
        Due.is("p25: bytes stay", 150, y.told(3));
    }

    private static GearHolds typedAllOrders() {
        GearHolds x = Due.two();
        x.puts(1);
        Due.text(x, "t2 20;v300 1;g7 31;f4 2;u1 300;d7 0;s-3;r3;");
        return x;
    }

    /** Promise 25, Terms 2: "leaves one, also if nothing changes by it". */
    private static void statesAlsoIfNothingChanges() {
        GearHolds x = new GearHolds();
        x.driver(0);
        x.puts(0);
        Due.is("p25: STATES", 2, x.told(4));
        Due.is("p25: back", 1, x.back());
        Due.is("p25: back", 0, x.back());
        Due.is("p25: digest", new GearHolds().digest(), x.digest());
    }

    /** Promise 25, Terms 2: "each call told S": type, clear, back, digest and questions are not. */
    private static void statesOfCallsNotToldS() {
        GearHolds x = counted(3);
        x.type('r');
        x.clear();
        x.of(1, 0);
        x.clutch(0, 0);
        x.ties(0);
        x.simple(1, 2, 0);
        x.way(1, 2, 0);
        x.over(1, 2, 0);
        x.worst(1, 2, 0);
        x.want(0);
        x.state(0);
        x.reads();
        x.why(0);
        x.told(0);
        x.digest();
        Due.is("p25: STATES", 3, x.told(4));
        Due.is("p25: back", 2, x.back());
        Due.is("p25: UP", 2, x.of(7, 2));
    }

    /**
     * Promise 25, Terms 2: "leaves one, if it is not refused": refused, with five STATES, no older
     * one is lost.
     */
    private static void refusedLeavesNoState() {
        GearHolds x = counted(5);
        x.gear(8, 1);
        x.fails(5, 0);
        x.trues(0, 21);
        x.up(7, 301);
        x.down(7, 301);
        x.slope(4);
        x.driver(4);
        x.sets(2, 1);
        x.drives(0, 61);
        x.puts(7);
        Due.text(x, "r1;r4;");
        x.reads();
        Due.text(x, "r1;r4");
        x.reads();
        Due.counts("p25: refused", x, 9, 1, 0, 5);
        for (int left = 4; left >= 0; left--) {
            Due.is("p25: back", left, x.back());
            Due.is("p25: UP", left == 0 ? 140 : left, x.of(7, 2));
        }
    }

    // ---- how often refused

    /** Promise 26: "BAD (0), NO (1), FULL (2); bytes of THE TEXT (3), STATES (4)". */
    private static void toldEachWhat() {
        int[] due = {1, 1, 0, 18, 5};
        for (int what = 0; what <= 4; what++) {
            int asked = what;
            Bounds.asked("p26: told(" + what + ")", due[what], Bounds::busy, x -> x.told(asked));
            Due.is("p26: told(" + what + "), new", 0, new GearHolds().told(what));
        }
        Bounds.outside("p26: told(what)", 0, 4, Bounds::busy, (x, what) -> x.told(what));
        Due.is("p26: bytes, full", 150, full().told(3));
    }

    /**
     * Promise 26, Terms 2: "Refused (a question, too)", promise 26: "BAD": told itself counts, from
     * then on.
     */
    private static void toldOutsideCountsItself() {
        GearHolds x = new GearHolds();
        Due.is("p26: told(5)", BAD, x.told(5));
        Due.is("p26: told(-1)", BAD, x.told(-1));
        Due.is("p26: BAD", 2, x.told(0));
        Due.is("p26: BAD, asked again", 2, x.told(0));
    }

    /** Promise 26: "How often refused": each kind apart, many times. */
    private static void toldEachKindApart() {
        GearHolds x = full();
        for (int i = 1; i <= 20; i++) {
            x.want(301);
            Due.counts("p26: BAD " + i, x, i, i - 1, i - 1, 2);
            x.way(1, 7, 0);
            Due.counts("p26: NO " + i, x, i, i, i - 1, 2);
            x.type('r');
            Due.counts("p26: FULL " + i, x, i, i, i, 2);
        }
    }

    /**
     * Promise 26, Terms 2: "Refused (a question, too), changing nothing but how often": each
     * question's BAD and NO.
     */
    private static void questionsRefusedCount() {
        GearHolds x = Due.two();
        x.of(8, 0);
        x.clutch(5, 0);
        x.ties(32);
        x.simple(1, 1, 0);
        x.way(1, 1, 0);
        x.over(1, 2, 41);
        x.worst(1, 2, 2);
        x.want(301);
        x.state(13);
        x.why(2);
        x.told(5);
        Due.counts("p26: BAD questions", x, 11, 0, 0, 2);
        x.way(1, 7, 0);
        x.over(1, 7, 0);
        x.worst(1, 7, 0);
        Due.counts("p26: NO questions", x, 11, 3, 0, 2);
    }

    // ---- digest

    /**
     * Promise 27: "h = 2411; then h = 31 h + v for each v": the values of a new object, put down
     * one by one.
     */
    private static void digestOfANewObject() {
        long h = 2411;
        int[] toldAndWhy = {0, 0, 0, 0, 0, 0, -1};
        for (int v : toldAndWhy) {
            h = 31 * h + v;
        }
        for (int g = 1; g <= 7; g++) {
            int[] gear = {0, 0, 20 * g, 20 * g - 15, 0};
            for (int v : gear) {
                h = 31 * h + v;
            }
        }
        for (int c = 0; c <= 4; c++) {
            int[] clutch = {0, 8, 8, 0};
            for (int v : clutch) {
                h = 31 * h + v;
            }
        }
        int[] state = {0, 0, 0, -1, 0, 0, 0, 0, 3, 0, 5, 100, 0};
        for (int v : state) {
            h = 31 * h + v;
        }
        Due.is("p27: digest, new", h, new GearHolds().digest());
    }

    /** Promise 27: the values of an object with all of them changed, asked for one by one. */
    private static void digestOfEachValue() {
        GearHolds x = Bounds.busy();
        x.reads();
        x.slope(-3);
        x.fails(4, 2);
        long h = 2411;
        for (int what = 0; what <= 4; what++) {
            h = 31 * h + x.told(what);
        }
        h = 31 * h + x.why(0);
        h = 31 * h + x.why(1);
        for (int g = 1; g <= 7; g++) {
            for (int what = 0; what <= 4; what++) {
                h = 31 * h + x.of(g, what);
            }
        }
        for (int c = 0; c <= 4; c++) {
            for (int what = 0; what <= 3; what++) {
                h = 31 * h + x.clutch(c, what);
            }
        }
        for (int what = 0; what <= 12; what++) {
            h = 31 * h + x.state(what);
        }
        Due.is("p27: digest, busy", h, x.digest());
    }

    /** Promise 27: it refuses nothing, counts nothing and leaves no STATE. */
    private static void digestChangesNothing() {
        Bounds.asked("p27: digest", 0, Bounds::busy, x -> x.digest() == x.digest() ? 0 : 1);
        Bounds.asked("p27: digest, new", 0, GearHolds::new, x -> x.digest() == x.digest() ? 0 : 1);
    }
}
