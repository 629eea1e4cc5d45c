/** Promises 1 to 5: a new object, type, compile, length, design. */
public final class PatternTest {
    public static void main(String[] args) {
        promise1NewObject();
        promise2Type();
        promise3Patterns();
        promise3WhatChanges();
        promise3WhenItAnswersNone();
        promise4Length();
        promise5Design();
        promise5CarriersAndDensities();
        promise5LongPatterns();
        Check.end();
    }

    private static void promise1NewObject() {
        LoomDesk x = new LoomDesk();
        int[] states = {0, 0, 0, 0, 0, 0, 0, 1};
        for (int what = 0; what < states.length; what++) {
            Check.due("new: state " + what, x.state(what), states[what]);
        }
        for (int what = 0; what < 3; what++) {
            Check.due("new: count " + what, x.count(what), 0);
            Check.due("new: cloth 0 " + what, x.cloth(0, what), LoomDesk.NONE);
            Check.due("new: design 0 " + what, x.design(0, what), LoomDesk.NONE);
        }
        Check.due("new: length", x.length(), 0);
        Check.due("new: angle", x.angle(), 0.0);
        Check.due("new: left", x.left(), 0.0);
        Check.due("new: roll", x.roll(4096), 0.0);
        Check.due("new: start", x.start(), false);
        Check.due("new: on", x.on(), false);
        Check.due("new: compile of no tape", x.compile(), 1);
        Check.due("NONE", LoomDesk.NONE, -1);
    }

    private static void promise2Type() {
        LoomDesk x = new LoomDesk();
        Check.due("type 0", x.type(Check.word("h1"), 0), false);
        Check.due("type 9", x.type(Check.word("h1"), 9), false);
        Check.due("type 9 of good bytes", x.type(Check.word("h1h2h3h4"), 9), false);
        Check.due("type -1", x.type(Check.word("h1"), -1), false);
        Check.due("type min", x.type(Check.word("h1"), Integer.MIN_VALUE), false);
        Check.due("type max", x.type(Check.word("h1"), Integer.MAX_VALUE), false);
        Check.due("a byte 31", x.type(0x681fL, 2), false);
        Check.due("a byte 127", x.type(0x7f31L, 2), false);
        Check.due("a byte 255", x.type(-1L, 8), false);
        Check.due("a byte 0 ahead", x.type(Check.word("h1"), 3), false);
        Check.due("nothing was typed", x.compile(), 1);
        Check.due("bytes above n count for nothing", x.type(0xffffffff00006831L, 2), true);
        Check.due("compile", x.compile(), 0);
        Check.due("lift", x.design(0, 0), 1);
        Check.due("32", x.type(32, 1), true);
        Check.due("126", x.type(126, 1), true);
        Check.due("126 is in the tape", x.compile(), 2);
        Check.due("the highest first", x.type(Check.word("h12345  "), 8), true);
        x.compile();
        Check.due("lift of eight bytes", x.design(0, 0), 0x12345);
    }

    private static void promise3Patterns() {
        Check.good("h0", 1);
        Check.good("  h0  ", 1);
        Check.good("hffffff", 1);
        Check.good("h123456c7h1", 2);
        Check.good("h123456d020h1", 2);
        Check.good("h1c7", 1);
        Check.good("h1 c7", 1);
        Check.good("c0h1d400", 1);
        Check.good("h1r0002 ( h2 )", 3);
        Check.good("r9999(h1)", 9999);
        Check.good("m (h1 h2) m( h3 )", 6);
        Check.good("m(m(m(m(m(m(h1))))))", 64);
        Check.good("r1(r1(r1(r1(r1(r1(h1))))))h2m(h3)", 4);
        for (int d : new int[] {20, 25, 40, 50, 80, 100, 125, 160, 200, 250, 400}) {
            LoomDesk x = Check.desk("d" + d + "h1");
            Check.due("density " + d, x.design(0, 2), d);
        }
        Check.good("d" + "0".repeat(100) + "125h1", 1);
    }

    private static void promise3WhatChanges() {
        LoomDesk x = Check.stopped("h1 c1 h2 h3", 460);
        Check.due("place", x.count(0), 1);
        Check.due("a fault", Check.compile(x, "h7x"), 3);
        Check.due("the pattern stays", x.length(), 3);
        Check.due("the place stays", x.count(0), 1);
        Check.due("the tape is empty behind a fault", x.compile(), 1);
        Check.due("a pattern", Check.compile(x, "h5h6"), 0);
        Check.due("the tape is empty behind a pattern", x.compile(), 1);
        Check.due("length", x.length(), 2);
        Check.due("place 0", x.count(0), 0);
        Check.due("what is in stays", x.state(3), 1);
        Check.due("the shed stays", x.state(1), 1);
        Check.due("the carrier stays", x.state(2), 1);
        Check.due("the cloth stays", x.cloth(0, 0), 1);
        Check.due("the count stays", x.count(1), 1);
        Check.due("the turns stay", x.count(2), 1);
        Check.due("the angle stays", x.angle(), 100.0);
        x.jump(1);
        x.cut(false);
        x.on();
        Check.due("no records", x.count(0), 0);
    }

    private static void promise3WhenItAnswersNone() {
        LoomDesk x = Check.running("h1h2", 400);
        Check.type(x, "h9");
        Check.due("running", x.compile(), LoomDesk.NONE);
        x.stop();
        Check.due("braking", x.compile(), LoomDesk.NONE);
        x.cut(false);
        Check.due("no power", x.compile(), LoomDesk.NONE);
        Check.due("the pattern stays", x.length(), 2);
        x.on();
        Check.due("the place came from a record", x.count(0), 1);
        Check.due("the tape was left", x.compile(), 0);
        Check.due("length", x.length(), 1);
        Check.due("lift", x.design(0, 0), 9);
    }

    private static void promise4Length() {
        LoomDesk x = new LoomDesk();
        Check.due("none", x.length(), 0);
        Check.compile(x, "h1x");
        Check.due("none behind a fault", x.length(), 0);
        Check.compile(x, "h1r3(h2m(h3h4))");
        Check.due("length", x.length(), 16);
        x.cut(true);
        Check.due("without power", x.length(), 16);
    }

    /** The picks of a pattern as "lift.carrier.density", one after the other. */
    private static String picks(String text) {
        LoomDesk x = Check.desk(text);
        StringBuilder all = new StringBuilder();
        for (long p = 0; p < x.length(); p++) {
            all.append(p == 0 ? "" : " ").append(Integer.toHexString(x.design(p, 0)));
            all.append('.').append(x.design(p, 1)).append('.').append(x.design(p, 2));
        }
        return all.toString();
    }

    private static void promise5Design() {
        LoomDesk x = Check.desk("hffffffc7d020h0");
        Check.due("lift", x.design(0, 0), 0xffffff);
        Check.due("carrier", x.design(0, 1), 0);
        Check.due("density", x.design(0, 2), 100);
        Check.due("lift", x.design(1, 0), 0);
        Check.due("carrier", x.design(1, 1), 7);
        Check.due("density", x.design(1, 2), 20);
        Check.due("pick 2", x.design(2, 0), LoomDesk.NONE);
        Check.due("pick -1", x.design(-1, 0), LoomDesk.NONE);
        Check.due("pick 2^32", x.design(1L << 32, 0), LoomDesk.NONE);
        Check.due("pick max", x.design(Long.MAX_VALUE, 0), LoomDesk.NONE);
        Check.due("pick min", x.design(Long.MIN_VALUE, 0), LoomDesk.NONE);
        Check.due("what 3", x.design(0, 3), LoomDesk.NONE);
        Check.due("what -1", x.design(0, -1), LoomDesk.NONE);
        Check.due("what min", x.design(0, Integer.MIN_VALUE), LoomDesk.NONE);
        x.cut(false);
        Check.due("without power", x.design(0, 0), 0xffffff);
    }

    private static void promise5CarriersAndDensities() {
        Check.due("from one time to the next", picks("r2(h1 c1h2 d20)h3"),
            "1.0.100 2.1.100 1.1.20 2.1.20 3.1.20");
        Check.due("backwards", picks("m(h1 c1h2 d20)h3"),
            "1.0.100 2.1.100 2.1.100 1.0.100 3.1.20");
        Check.due("a mirror in a repeat", picks("r2(m(h1 c1)h2 c2)h3"),
            "1.0.100 1.0.100 2.1.100 1.2.100 1.2.100 2.1.100 3.2.100");
        Check.due("a repeat in a mirror", picks("m(c3 r2(h1 c1)d50h2)h3"),
            "1.3.100 1.1.100 2.1.50 2.1.50 1.1.100 1.3.100 3.1.50");
        Check.due("a mirror in a mirror", picks("c2m(m(h1 c1h2)h3 c4)"),
            "1.2.100 2.1.100 2.1.100 1.2.100 3.1.100 3.1.100 1.2.100 2.1.100 2.1.100 1.2.100");
        Check.due("three times", picks("d25r3(h1 r2(c5h2)d40)"),
            "1.0.25 2.5.25 2.5.25 1.5.40 2.5.40 2.5.40 1.5.40 2.5.40 2.5.40");
        Check.due("the next pattern begins anew", picks("h1"), "1.0.100");
    }

    private static void promise5LongPatterns() {
        LoomDesk x = Check.desk("r2000(r1000(h1r998(h2)c3h3)d20)");
        Check.due("length", x.length(), 2000000000L);
        Check.due("first", x.design(0, 1), 0);
        Check.due("second time", x.design(1000, 1), 3);
        Check.due("second time", x.design(1000, 2), 100);
        Check.due("lift", x.design(999999, 0), 3);
        Check.due("density", x.design(999999, 2), 100);
        Check.due("density", x.design(1000000, 2), 20);
        Check.due("last", x.design(1999999999L, 0), 3);
        Check.due("behind", x.design(2000000000L, 0), LoomDesk.NONE);
        LoomDesk y = Check.desk("m(r1000(r1000(r1000(h1)c1)))");
        Check.due("first", y.design(0, 1), 0);
        Check.due("middle", y.design(999999999L, 1), 1);
        Check.due("middle", y.design(1000000000L, 1), 1);
        Check.due("last", y.design(1999999999L, 1), 0);
        Check.due("last but 999", y.design(1999999999L - 999, 1), 0);
        Check.due("last but 1000", y.design(1999999999L - 1000, 1), 1);
    }
}
