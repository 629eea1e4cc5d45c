/** The faults of a pattern and its LENGTH; promises 3, 4 and 5. */
public final class FaultBoundsTest {
    private static final String MOST = "r2000(r1000(r1000(h1)))";

    public static void main(String[] args) {
        characters();
        oneIsMissing();
        densityThatIsNone();
        zeroBehindR();
        seventhBracket();
        closesWithoutAPick();
        theFirstOneCounts();
        lengthAtItsBounds();
        lengthsFarBeyond();
        lengthOfNothing();
        faultsAheadOfTheLength();
        aPattern();
        aFaultChangesNothingElse();
        aPatternBehindAFault();
        oneBehindTheOther();
        noneChangesNothing();
        lengthWithoutOne();
        picksThatAreNone();
        otherWhats();
        Check.end();
    }

    private static void characters() {
        Check.sentence("the first character that can not stand there");
        for (char c = 33; c <= 126; c++) {
            if ("hcdrm".indexOf(c) < 0) {
                Check.fault(c + "h1", 0);
                Check.fault("h1 " + c, 3);
                Check.fault("h1 m(" + c, 5);
                Check.fault("m" + c, c == '(' ? 2 : 1);
                Check.fault("r2 " + c, c == '(' ? 4 : 3);
            }
        }
        Check.fault("h1)", 2);
        Check.fault("m(h1))", 5);
        Check.fault("h1,h2", 2);
        Check.fault(" ".repeat(159) + "x", 159);
        Check.fault("x" + " ".repeat(159), 0);
    }

    private static void oneIsMissing() {
        Check.sentence("the tape's length, if one is missing");
        String[] texts = {"h", "c", "d", "r", "m", "r2", "m(", "r2(", "m(h1", "m(h1 m(h2)", "r2(c1", "h1 c",
            "h1 r9999", "m  ", "r2  ", "m(  ", "m(h1  ", " m(m(m(m(m(m(h1)))))", " ".repeat(159) + "h",
            " ".repeat(158) + "m(", "m(" + " ".repeat(158), "m(" + "h1".repeat(79)};
        for (String text : texts) {
            Check.fault(text, text.length());
        }
        // A blank is there, and can not stand where a digit is due.
        Check.fault("h ", 1);
        Check.fault("c ", 1);
        Check.fault("d ", 1);
        Check.fault("r ", 1);
    }

    private static void densityThatIsNone() {
        Check.sentence("a DENSITY that is none, a 0 behind r: at its first digit, whatever stands behind");
        String[] texts = {"d0", "d1", "d19", "d21", "d401", "d00", "d2000", "d21x", "d21h1", "d21 ", "d21)",
            "d21m(", "d21 0", "d2 0h1", "d9a", "d000000000000021~", "d" + "7".repeat(159)};
        for (String text : texts) {
            Check.fault(text, 1);
            if (text.length() < 150) {
                Check.fault("h1 m(" + text, 6);
            }
        }
        Check.fault("d20x", 3);
        Check.fault("d20a", 3);
    }

    private static void zeroBehindR() {
        Check.sentence("a DENSITY that is none, a 0 behind r: at its first digit, whatever stands behind");
        String[] texts = {"r0", "r00", "r000", "r0000", "r0(h1)", "r0x", "r0 ", "r0h1", "r0)", "r00(", "r0000x",
            "r00000", "r00001(h1)", "r0 1(h1)", "r0a"};
        for (String text : texts) {
            Check.fault(text, 1);
            Check.fault("h1 m(" + text, 6);
        }
        Check.fault("m(m(m(m(m(m(r0(h1)))))))", 13);
    }

    private static void seventhBracket() {
        Check.sentence("a seventh bracket");
        Check.fault("m(m(m(m(m(m(m(", 13);
        Check.fault("m(m(m(m(m(m(m (h1", 14);
        Check.fault("m(m(m(m(m(m(r9999(h1", 17);
        Check.fault("m(m(m(m(m(m(h1 m(h1)))))))", 16);
        // What comes ahead of the seventh bracket is looked at first.
        Check.fault("m(m(m(m(m(m(mx", 13);
        Check.fault("m(m(m(m(m(m(m", 13);
        Check.fault("m(m(m(m(m(m(r12345(h1", 17);
    }

    private static void closesWithoutAPick() {
        Check.sentence("a bracket that closes without a pick inside");
        Check.fault("m()", 2);
        Check.fault("m(c1d20  )", 9);
        Check.fault("h1 h2 m()h3", 8);
        Check.fault("m(m(m(m(m(m()))))", 12);
        Check.fault("m(m(h1)m(c1)", 11);
        Check.fault("m()x", 2);
    }

    private static void theFirstOneCounts() {
        Check.sentence("FAULTS: the first character that can not stand there");
        Check.fault("h1 d21 r0 m()", 4);
        Check.fault("h1 r0 d21", 4);
        Check.fault("h1 m() d21", 5);
        Check.fault("h1 x d21", 3);
        Check.fault("h1 m(h1 m(", 10);
        Check.fault("m(h1 x", 5);
    }

    private static void lengthAtItsBounds() {
        Check.sentence("the LENGTH of all, in picks, is 1 .. 2000000000");
        Check.good("h1", 1);
        Check.good(MOST, 2000000000L);
        Check.fault(MOST + "h1", 0);
        Check.fault("h1 " + MOST, 0);
        Check.good("r1999(r1000(r1000(h1)))r999(r1000(h1))r999(h1)h1", 2000000000L);
        Check.fault("r1999(r1000(r1000(h1)))r999(r1000(h1))r999(h1)h1h1", 0);
        Check.good("m(r1000(r1000(r1000(h1))))", 2000000000L);
        Check.fault("m(r1000(r1000(r1000(h1)))h1)", 0);
        Check.fault("  m(" + MOST + ")", 2);
        Check.good("r1(" + MOST + ")", 2000000000L);
        Check.fault("r2(" + MOST + ")", 0);
    }

    private static void lengthsFarBeyond() {
        Check.sentence("if the LENGTH is more than 2000000000");
        // 2^31, 2^32, 2^32 + 1, 2^63, 2^64 and 2^64 + 1 picks
        Check.fault("  r8192(r8192(r32(h1)))", 2);
        Check.fault("r8192(r8192(r64(h1)))", 0);
        Check.fault("h1 r8192(r8192(r64(h1)))", 0);
        Check.fault("r8192(r8192(r8192(r8192(r2048(h1)))))", 0);
        Check.fault("r8192(r8192(r8192(r8192(r4096(h1)))))", 0);
        Check.fault("h1 r8192(r8192(r8192(r8192(r4096(h1)))))", 0);
        Check.fault("r8192(r8192(r8192(r8192(r8192(r8192(h1))))))", 0);
        Check.fault("r9999(r9999(r9999(r9999(r9999(r9999(h1))))))", 0);
        String half = "r8192(r8192(r8192(r8192(r2048(h1)))))";
        Check.fault(half + half, 0);
    }

    private static void lengthOfNothing() {
        Check.sentence("or it is 0, the first character that is no blank (the tape's length if there is none)");
        Check.fault("", 0);
        Check.fault(" ", 1);
        Check.fault(" ".repeat(160), 160);
        Check.fault("c1", 0);
        Check.fault("   c1 d20", 3);
        Check.fault(" ".repeat(158) + "c1", 158);
    }

    private static void faultsAheadOfTheLength() {
        Check.sentence("else, if the LENGTH is more than 2000000000, or it is 0");
        Check.fault(" r2(" + MOST + ")x", 28);
        Check.fault(" r2(" + MOST + "", 27);
        Check.fault(" r2(" + MOST + ")d21", 29);
        Check.fault("r8192(r8192(r64(h1)))m()", 23);
        Check.fault("  c1x", 4);
        Check.fault("  c1c", 5);
        Check.fault("  c1)", 4);
    }

    private static void aPattern() {
        Check.sentence("it is that of the loom, with PLACE 0 and no RECORDS"
            + " (what is IN or BROKEN, the shed, the carrier and the cloth stay)");
        LoomDesk x = Desks.broken();
        Check.due("place", x.count(0), 2);
        Check.due("compile", x.compile(), 0);
        Check.due("place", x.count(0), 0);
        Check.due("length", x.length(), 1);
        Check.due("lift", x.design(0, 0), 7);
        int[] states = {0, 2, 3, 2, 0, 1, 30, 1};
        for (int what = 0; what < states.length; what++) {
            Check.due("state " + what + " stays", x.state(what), states[what]);
        }
        int[][] cloth = {{2, 2, 50}, {1, 1, 100}, {-1, -1, -1}};
        for (int i = 0; i < cloth.length; i++) {
            for (int what = 0; what < 3; what++) {
                Check.due("cloth " + i + " stays", x.cloth(i, what), cloth[i][what]);
            }
        }
        Check.due("beaten stays", x.count(1), 2);
        Check.due("turns stay", x.count(2), 2);
        Check.due("angle stays", x.angle(), 140.0);
        noRecords();
    }

    private static void noRecords() {
        for (boolean spoils : new boolean[] {false, true}) {
            LoomDesk y = Check.stopped("h1h2h3", 760);
            Check.due("compile", Check.compile(y, "h4h5h6"), 0);
            y.back(30);
            y.back(10);
            y.cut(spoils);
            y.on();
            Check.due("no record", y.count(0), 0);
        }
    }

    private static void aFaultChangesNothingElse() {
        Check.sentence("or 1 more than the place of the fault, and nothing else changes");
        String[] texts = {"h1x", "c1", "", MOST + "h1", "d21h1", "m(h1", "r0(h1)", "m(c1)"};
        int[] answers = {3, 1, 1, 1, 2, 5, 2, 5};
        for (int i = 0; i < texts.length; i++) {
            String text = texts[i];
            Twin.refused("compile of '" + text + "'", FaultBoundsTest::emptied,
                x -> Check.compile(x, text), answers[i]);
        }
    }

    private static void aPatternBehindAFault() {
        Check.sentence("or 1 more than the place of the fault, and nothing else changes");
        String[] texts = {"", "c7", "h9h9h9x", "c7d20h9)", "m(h9", "m(m(m(m(m(m(h9", "m(m(m(m(m(m(m(h9", "r9(c7d20)",
            "h9".repeat(79) + " c", "c7d20m(h9)m(", "d21h9", "r0(h9)", "r9999(" + MOST + ")"};
        for (String text : texts) {
            LoomDesk x = new LoomDesk();
            Check.due("a fault in '" + text + "'", Check.compile(x, text) > 0, true);
            twoPatterns(x);
        }
    }

    private static void twoPatterns(LoomDesk x) {
        Check.due("a pattern behind it", Check.compile(x, "h1 r2(c2d50h2)"), 0);
        Check.due("length", x.length(), 3);
        int[][] picks = {{1, 0, 100}, {2, 2, 50}, {2, 2, 50}};
        for (int p = 0; p < picks.length; p++) {
            for (int what = 0; what < 3; what++) {
                Check.due("design " + p + " " + what, x.design(p, what), picks[p][what]);
            }
        }
        Check.due("another one", Check.compile(x, "m(h3h4)"), 0);
        Check.due("length", x.length(), 4);
        int[] lifts = {3, 4, 4, 3};
        for (int p = 0; p < lifts.length; p++) {
            Check.due("lift " + p, x.design(p, 0), lifts[p]);
            Check.due("carrier " + p, x.design(p, 1), 0);
            Check.due("density " + p, x.design(p, 2), 100);
        }
    }

    private static void oneBehindTheOther() {
        Check.sentence("The tape (which is empty then) is a pattern");
        LoomDesk x = new LoomDesk();
        for (int i = 0; i < 4; i++) {
            Check.due("the longest text", Check.compile(x, "c7d400" + "h9".repeat(77)), 0);
            Check.due("length", x.length(), 77);
            Check.due("the last", x.design(76, 0), 9);
            twoPatterns(x);
        }
    }

    /** Standing with a BROKEN pick, a pattern, and nothing on the tape. */
    private static LoomDesk emptied() {
        LoomDesk x = Check.desk(Desks.TEXT);
        x.start();
        x.turn(740);
        x.weft(true);
        x.turn(360);
        Check.due("broken", x.state(3), 2);
        x.weft(true);
        return x;
    }

    private static void noneChangesNothing() {
        Check.sentence("NONE, changing nothing, if the shaft is not standing, or there is no power.");
        Twin.refused("running", Desks::running, LoomDesk::compile, LoomDesk.NONE);
        Twin.refused("braking", Desks::braking, LoomDesk::compile, LoomDesk.NONE);
        Twin.refused("no power", Desks::dark, LoomDesk::compile, LoomDesk.NONE);
        LoomDesk x = Desks.dark();
        x.type('x', 1);
        Check.due("no power, and a fault", x.compile(), LoomDesk.NONE);
        x.on();
        Check.due("the fault is there still", x.compile(), 4);
        LoomDesk y = new LoomDesk();
        y.cut(false);
        Check.due("no power, and no tape", y.compile(), LoomDesk.NONE);
    }

    private static void lengthWithoutOne() {
        Check.sentence("The LENGTH of the pattern; 0 without one.");
        LoomDesk x = new LoomDesk();
        Check.due("without", x.length(), 0);
        Check.due("a fault", Check.compile(x, MOST + "h1"), 1);
        Check.due("without", x.length(), 0);
        Check.due("the most", Check.compile(x, MOST), 0);
        Check.due("length", x.length(), 2000000000L);
        Check.due("a fault", Check.compile(x, "h1m("), 5);
        Check.due("length stays", x.length(), 2000000000L);
    }

    private static void picksThatAreNone() {
        Check.sentence("NONE if there is none such");
        LoomDesk x = Check.desk("c1d20h9h8");
        int[] first = {9, 1, 20};
        int[] last = {8, 1, 20};
        for (int what = 0; what < 3; what++) {
            Check.due("first", x.design(0, what), first[what]);
            Check.due("last", x.design(1, what), last[what]);
            for (long p : new long[] {-1, 2, 3, 1L << 32, (1L << 32) + 1, -(1L << 32), 1L << 63,
                Long.MAX_VALUE, Long.MIN_VALUE + 1}) {
                Check.due("design " + p, x.design(p, what), LoomDesk.NONE);
            }
            Check.due("without a pattern", new LoomDesk().design(0, what), LoomDesk.NONE);
        }
        LoomDesk y = Check.desk(MOST);
        Check.due("last of the most", y.design(1999999999L, 0), 1);
        Check.due("behind the most", y.design(2000000000L, 0), LoomDesk.NONE);
    }

    private static void otherWhats() {
        Check.sentence("what 0: LIFT, 1: CARRIER, 2: DENSITY. NONE if there is none such, or for another what.");
        LoomDesk x = Check.desk("c1d20h9");
        for (int what : new int[] {-1, 3, 4, 256, Integer.MIN_VALUE, Integer.MAX_VALUE}) {
            Check.due("what " + what, x.design(0, what), LoomDesk.NONE);
            Check.due("what " + what + " of none", x.design(1, what), LoomDesk.NONE);
        }
        Twin.unchanged("design", Desks::running, y -> y.design(4, 2) + y.design(5, 0) + y.design(0, 3));
    }
}
