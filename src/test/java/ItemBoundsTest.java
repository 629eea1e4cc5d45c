import java.util.List;

/** The bounds of the items of a pattern: blanks, digits, values, brackets. */
public final class ItemBoundsTest {
    private static final List<Integer> DENSITIES =
        List.of(20, 25, 40, 50, 80, 100, 125, 160, 200, 250, 400);

    public static void main(String[] args) {
        oneItemAtLeast();
        blanksCountForNothing();
        noBlanksAmongDigits();
        digitsGoOn();
        picks();
        hexadecimalDigits();
        carriers();
        densities();
        densitiesOfAnyNumberOfDigits();
        repeats();
        mirrors();
        sixBrackets();
        fullTapes();
        onePickInBrackets();
        carrierAndDensityAtFirst();
        carrierAndDensityGoOn();
        carrierAndDensityBackwards();
        Check.end();
    }

    private static void oneItemAtLeast() {
        Check.sentence("A PATTERN is a text of ITEMS, one at least");
        Check.fault("", 0);
        Check.fault(" ", 1);
        Check.good("h0", 1);
        // An item that is no pick is not enough for a LENGTH.
        Check.fault("c0", 0);
        Check.fault("d100", 0);
    }

    private static void blanksCountForNothing() {
        Check.sentence("blanks count for nothing");
        Check.good("h1 c1d20r2(h2)m(h3)", 5);
        Check.good("  h1  c1  d20  r2  (  h2  )  m  (  h3  )  ", 5);
        Check.good(" ".repeat(158) + "h1", 1);
        Check.good("h1" + " ".repeat(158), 1);
        Check.good("r2" + " ".repeat(154) + "(h1)", 2);
        Check.good("m" + " ".repeat(155) + "(h1)", 2);
        LoomDesk x = Check.desk("h1 h23");
        Check.due("the lift ends at a blank", x.design(0, 0), 1);
        Check.due("the next one", x.design(1, 0), 0x23);
    }

    private static void noBlanksAmongDigits() {
        Check.sentence("between a letter and its digits, and among these, there are none");
        Check.fault("h 1", 1);
        Check.fault("h1c 1", 4);
        Check.fault("h1 c 1", 4);
        Check.fault("h1 d 20", 4);
        Check.fault("r 2(h1)", 1);
        Check.fault("h1 2", 3);
        Check.fault("h1 c1 1", 6);
        Check.fault("h1 d20 0", 7);
        Check.fault("r1 2(h1)", 3);
    }

    private static void digitsGoOn() {
        Check.sentence("digits go on as far as they can");
        Check.due("h takes a c and a d", Check.desk("h1c2d3").design(0, 0), 0x1c2d3);
        Check.good("h1d20", 1);
        Check.good("h12345d", 1);
        Check.fault("h12345c1", 7);
        Check.good("h123456c1", 1);
        LoomDesk x = Check.desk("h123456c7h123456d020h2");
        Check.due("a c behind six digits", x.design(1, 1), 7);
        Check.due("a d behind six digits", x.design(2, 2), 20);
        Check.fault("d1000h1", 1);
        Check.fault("d100h1 d2000", 8);
        Check.good("r12(h1)", 12);
        Check.good("r1234(h1)", 1234);
    }

    private static void picks() {
        Check.sentence("h and 1 to 6 hexadecimal digits");
        Check.fault("h", 1);
        Check.fault("hh1", 1);
        Check.fault("h)", 1);
        String[] lifts = {"0", "1", "f", "00", "ff", "fff", "ffff", "fffff", "ffffff", "000000", "000001",
            "100000", "abcdef"};
        for (String lift : lifts) {
            LoomDesk x = Check.desk("h" + lift);
            Check.due("lift " + lift, x.design(0, 0), Integer.parseInt(lift, 16));
        }
        Check.fault("h0000000", 7);
        Check.fault("h1234567", 7);
        Check.fault("hfffffff", 7);
        Check.fault("h123456a", 7);
        Check.fault("h1h1234567h1", 9);
    }

    private static void hexadecimalDigits() {
        Check.sentence("(0 .. 9, a .. f)");
        for (char c = 32; c <= 126; c++) {
            if (Character.digit(c, 16) >= 0 && !Character.isUpperCase(c)) {
                Check.due("lift " + c, Check.desk("h" + c).design(0, 0), Character.digit(c, 16));
            } else {
                Check.fault("h" + c, 1);
            }
        }
    }

    private static void carriers() {
        Check.sentence("c and a digit 0 .. 7");
        for (char c = 32; c <= 126; c++) {
            if (c >= '0' && c <= '7') {
                Check.due("carrier " + c, Check.desk("c" + c + "h1").design(0, 1), c - '0');
            } else {
                Check.fault("c" + c + "h1", 1);
            }
        }
        Check.fault("c", 1);
        Check.fault("c00h1", 2);
        Check.fault("c77h1", 2);
        Check.good("c7c0h1", 1);
    }

    private static void densities() {
        Check.sentence("of this value one of 20, 25, 40, 50, 80, 100, 125, 160, 200, 250, 400");
        for (int d = 0; d <= 1000; d++) {
            if (DENSITIES.contains(d)) {
                Check.due("density " + d, Check.desk("d" + d + "h1").design(0, 2), d);
            } else {
                Check.fault("d" + d + "h1", 1);
            }
        }
    }

    private static void densitiesOfAnyNumberOfDigits() {
        Check.sentence("d and digits (any number of them): their DENSITY");
        Check.fault("d", 1);
        Check.fault("dh1", 1);
        Check.fault("da0h1", 1);
        for (int zeros = 0; zeros <= 154; zeros++) {
            LoomDesk x = Check.desk("d" + "0".repeat(zeros) + "400h1");
            Check.due("density behind " + zeros + " zeros", x.design(0, 2), 400);
        }
        Check.fault("d" + "0".repeat(157) + "h1", 1);
        Check.fault("d" + "9".repeat(157) + "h1", 1);
        Check.fault("d" + "0".repeat(100) + "401h1", 1);
        // 100 and 400 above multiples of 2^16, 2^24, 2^31, 2^32, 2^63 and 2^64
        String[] wrapped = {"65636", "16777316", "2147484048", "4294967396", "4294967696",
            "9223372036854776208", "18446744073709551716", "18446744073709552016"};
        for (String d : wrapped) {
            Check.fault("h1 h1 d" + d + "h1", 7);
        }
    }

    private static void repeats() {
        Check.sentence("r and 1 to 4 digits, not 0 altogether, and ( ITEMS ): these so many times");
        Check.fault("r(h1)", 1);
        Check.good("r1(h1)", 1);
        Check.good("r9(h1)", 9);
        Check.good("r10(h1)", 10);
        Check.good("r0001(h1)", 1);
        Check.good("r0010(h1)", 10);
        Check.good("r1000(h1)", 1000);
        Check.good("r9999(h1)", 9999);
        Check.fault("r10000(h1)", 5);
        Check.fault("r00010(h1)", 5);
        Check.fault("r99999(h1)", 5);
        Check.fault("ra(h1)", 1);
        Check.fault("r1a(h1)", 2);
        for (String zero : new String[] {"0", "00", "000", "0000"}) {
            Check.fault("r" + zero + "(h1)", 1);
        }
        Check.fault("r2h1", 2);
        Check.fault("r2)", 2);
        Check.fault("r2r2(h1)", 2);
        Check.fault("(h1)", 0);
    }

    private static void mirrors() {
        Check.sentence("m ( ITEMS ): these, and then their picks backwards");
        Check.good("m(h1)", 2);
        Check.good("m(h1h2)", 4);
        Check.fault("m2(h1)", 1);
        Check.fault("mh1", 1);
        Check.fault("m)", 1);
        Check.fault("mm(h1)", 1);
        Check.fault("m((h1))", 2);
        LoomDesk x = Check.desk("m(h1)h2");
        Check.due("the pick", x.design(0, 0), 1);
        Check.due("and backwards", x.design(1, 0), 1);
        Check.due("and what is behind", x.design(2, 0), 2);
    }

    private static void sixBrackets() {
        Check.sentence("Brackets are at most 6 in each other");
        for (int deep = 1; deep <= 6; deep++) {
            Check.good("m(".repeat(deep) + "h1" + ")".repeat(deep), 1L << deep);
            Check.good("r1(".repeat(deep) + "h1" + ")".repeat(deep), 1);
        }
        Check.fault("m(m(m(m(m(m(m(h1)))))))", 13);
        Check.fault("r1(r1(r1(r1(r1(r1(r1(h1)))))))", 20);
        Check.fault("m(m(m(m(m(m( m  (h1)))))))", 16);
        Check.good("m(m(m(m(m(m(h1)m(h1)h1)))))m(m(m(m(m(m(h1))))))", 160 + 64);
        Check.fault("m(m(m(m(m(m(h1)m(m(h1))))))))", 18);
        Check.good("m(h1)".repeat(32), 64);
    }

    private static void fullTapes() {
        Check.sentence("THE TAPE has at most 160 characters (32 .. 126).");
        StringBuilder text = new StringBuilder();
        for (int i = 0; i < 80; i++) {
            text.append('h').append(Integer.toHexString(i % 16));
        }
        LoomDesk x = Check.desk(text.toString());
        for (int p = 0; p <= 80; p++) {
            Check.due("pick " + p + " of 80", x.design(p, 0), p < 80 ? p % 16 : LoomDesk.NONE);
        }
        sixFullBrackets(text.toString());
    }

    private static void sixFullBrackets(String picks) {
        LoomDesk y = Check.desk("m(".repeat(6) + picks.substring(0, 142) + ")".repeat(6));
        LoomDesk z = Check.desk("r2(".repeat(6) + picks.substring(0, 136) + ")".repeat(6));
        for (int p = 0; p < 71 * 64; p += 13) {
            sixMirrors(y, p);
        }
        // Here all six go backwards.
        for (int p = 3040; p < 3060; p++) {
            sixMirrors(y, p);
        }
        sixMirrors(y, 71 * 64 - 1);
        for (int p = 7; p < 68 * 64; p += 10) {
            Check.due("pick " + p + " of six repeats", z.design(p, 0), p % 68 % 16);
        }
        Check.due("behind the last", y.design(71 * 64, 0), LoomDesk.NONE);
        Check.due("behind the last", z.design(68 * 64, 0), LoomDesk.NONE);
    }

    private static void sixMirrors(LoomDesk y, int p) {
        int once = p % 142 < 71 ? p % 142 : 141 - p % 142;
        Check.due("pick " + p + " of six mirrors", y.design(p, 0), once % 16);
    }

    private static void onePickInBrackets() {
        Check.sentence("what is in them has one pick at least");
        Check.fault("m()", 2);
        Check.fault("m( )", 3);
        Check.fault("r2()", 3);
        Check.fault("r2(c1)", 5);
        Check.fault("h1m(d20)h1", 7);
        Check.fault("h1 m(c1 d20 c2 )h2", 15);
        Check.fault("m(m())", 4);
        Check.fault("m(h1m())", 6);
        Check.fault("m(m(h1)r2(c1))", 12);
        Check.good("m(m(h1))", 4);
        Check.good("m(c1r2(d20h1)c2)", 4);
    }

    private static String told(LoomDesk x, long... picks) {
        StringBuilder all = new StringBuilder();
        for (long p : picks) {
            all.append(x.design(p, 1)).append('.').append(x.design(p, 2)).append(' ');
        }
        return all.toString();
    }

    private static void carrierAndDensityAtFirst() {
        Check.sentence("CARRIER and DENSITY are 0 and 100 ahead of the first item");
        LoomDesk x = Check.desk("h1 c7d20h2");
        Check.due("ahead of them and behind", told(x, 0, 1), "0.100 7.20 ");
        Check.due("another pattern", Check.compile(x, "h1h2"), 0);
        Check.due("it begins anew", told(x, 0, 1), "0.100 0.100 ");
    }

    private static void carrierAndDensityGoOn() {
        Check.sentence("also through brackets, from one time to the next one, and out of them");
        LoomDesk x = Check.desk("c1r3(h1 c2h1 d20)h1");
        Check.due("picks", told(x, 0, 1, 2, 3, 4, 5, 6), "1.100 2.100 2.20 2.20 2.20 2.20 2.20 ");
        LoomDesk y = Check.desk("r2(h1r2(h1 r2(h1 c5d25)))h1");
        Check.due("first", told(y, 0, 1, 2, 3), "0.100 0.100 0.100 5.25 ");
        Check.due("out of three", told(y, 4, 7, 14), "5.25 5.25 5.25 ");
        LoomDesk z = Check.desk("r9999(r9999(r20(h1)c1)d20)h1");
        long all = z.length() - 1;
        Check.due("first", told(z, 0, 19, 20, 9999 * 20 - 1, 9999 * 20), "0.100 0.100 1.100 1.100 1.20 ");
        Check.due("last", told(z, all - 1, all), "1.20 1.20 ");
    }

    private static void carrierAndDensityBackwards() {
        Check.sentence("of picks that come backwards each has what it had the first time,"
            + " and behind a mirror they are as behind its first half");
        LoomDesk x = Check.desk("c1m(h1 c2h1 d20)h1");
        Check.due("picks", told(x, 0, 1, 2, 3, 4), "1.100 2.100 2.100 1.100 2.20 ");
        LoomDesk y = Check.desk("m(r2(h1 c3)m(h1 d50h1)c4)h1");
        Check.due("first half", told(y, 0, 1, 2, 3, 4, 5), "0.100 3.100 3.100 3.50 3.50 3.100 ");
        Check.due("second half", told(y, 6, 7, 8, 9, 10, 11), "3.100 3.50 3.50 3.100 3.100 0.100 ");
        Check.due("behind it", told(y, 12), "4.50 ");
    }
}
