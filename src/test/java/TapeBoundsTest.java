/** Promise 2, and the bounds of the tape. */
public final class TapeBoundsTest {
    public static void main(String[] args) {
        howManyBytes();
        theHighestFirst();
        bytesThatAreNone();
        bytesAboveAreNotLookedAt();
        fullByEveryLength();
        fullByOneWord();
        emptyAgain();
        inEveryMode();
        Check.end();
    }

    private static void howManyBytes() {
        Check.sentence("The n (1 .. 8) lowest bytes of word");
        long word = Check.word("h1h2h3h4");
        for (int n = 1; n <= 8; n++) {
            LoomDesk x = new LoomDesk();
            Check.due("type of " + n, x.type(word, n), true);
            int room = 0;
            while (x.type(' ', 1)) {
                room++;
            }
            Check.due("room behind " + n, room, 160 - n);
        }
        Check.sentence("false, changing nothing, for another n");
        for (int n : new int[] {0, 9, -1, -8, 10, 16, 64, 160, Integer.MIN_VALUE, Integer.MAX_VALUE}) {
            Twin.refused("type of " + n, Desks::standing, x -> x.type(word, n), false);
        }
    }

    private static void theHighestFirst() {
        Check.sentence("lowest bytes of word, the highest first, go to the tape: true");
        for (int n = 1; n <= 8; n++) {
            for (int place = 0; place < n; place++) {
                String part = " ".repeat(place) + "~" + " ".repeat(n - 1 - place);
                LoomDesk x = new LoomDesk();
                Check.due("type of '" + part + "'", x.type(Check.word(part), n), true);
                Check.due("fault of '" + part + "'", x.compile(), place + 1);
            }
        }
    }

    private static void bytesThatAreNone() {
        Check.sentence("a byte that is not 32 .. 126");
        long blanks = Check.word("        ");
        for (int shift = 0; shift < 64; shift += 8) {
            for (int c : new int[] {0, 1, 10, 31, 127, 128, 159, 160, 255}) {
                long word = blanks & ~(255L << shift) | (long) c << shift;
                LoomDesk x = new LoomDesk();
                Check.due("a byte " + c + " at " + shift, x.type(word, 8), false);
                Check.due("nothing is on the tape", x.compile(), 1);
            }
            for (int c : new int[] {32, 33, 125, 126}) {
                long word = blanks & ~(255L << shift) | (long) c << shift;
                Check.due("a byte " + c + " at " + shift, new LoomDesk().type(word, 8), true);
            }
        }
        Twin.refused("31 at last", Desks::standing, x -> x.type(0x68311fL, 3), false);
        Twin.refused("31 first", Desks::standing, x -> x.type(0x1f6831L, 3), false);
        Twin.refused("127 at last", Desks::standing, x -> x.type(0x68317fL, 3), false);
        Twin.refused("127 first", Desks::standing, x -> x.type(0x7f6831L, 3), false);
    }

    private static void bytesAboveAreNotLookedAt() {
        Check.sentence("The n (1 .. 8) lowest bytes of word");
        for (int n = 2; n < 8; n++) {
            LoomDesk x = new LoomDesk();
            long word = -1L << 8 * n | Check.word("h1" + " ".repeat(n - 2));
            Check.due("type of " + n, x.type(word, n), true);
            Check.due("compile", x.compile(), 0);
            Twin.refused("type of one more", Desks::standing, y -> y.type(word, 8), false);
        }
    }

    /** A desk whose tape has so many characters, the first two of them a pick. */
    private static LoomDesk filled(int size) {
        LoomDesk x = new LoomDesk();
        Check.due("type", Check.type(x, "h1" + " ".repeat(size - 2)), true);
        return x;
    }

    private static void fullByEveryLength() {
        Check.sentence("or if it would have more than 160");
        for (int n = 1; n <= 8; n++) {
            int each = n;
            long word = Check.word("h1h2h3h4");
            LoomDesk x = filled(160 - n);
            Check.due("160 by " + n, x.type(word, n), true);
            Check.due("161 behind " + n, x.type(' ', 1), false);
            Twin.refused("161 by " + n, () -> filled(161 - each), y -> y.type(word, each), false);
            Twin.refused(n + " more than 160", () -> filled(160), y -> y.type(word, each), false);
        }
    }

    private static void fullByOneWord() {
        Check.sentence("THE TAPE has at most 160 characters (32 .. 126).");
        LoomDesk x = filled(159);
        Check.due("the 160th", x.type('x', 1), true);
        Check.due("the 161st", x.type('y', 1), false);
        Check.due("the 160th is on the tape", x.compile(), 160);
        LoomDesk y = filled(153);
        Check.due("eight more than 153", y.type(Check.word("h1h1h1h1"), 8), false);
        Check.due("seven more", y.type(Check.word("h1h1h1x"), 7), true);
        Check.due("nothing of the eight is on the tape", y.compile(), 160);
        Check.good("h1".repeat(80), 80);
    }

    private static void emptyAgain() {
        Check.sentence("The tape (which is empty then) is a pattern");
        LoomDesk x = filled(160);
        Check.due("a pattern", x.compile(), 0);
        Check.due("160 go on it again", Check.type(x, " ".repeat(159) + "x"), true);
        Check.due("the 161st", x.type(' ', 1), false);
        Check.due("a fault", x.compile(), 160);
        Check.due("160 go on it again", Check.type(x, " ".repeat(160)), true);
        Check.due("no item", x.compile(), 161);
        Check.due("the empty tape", x.compile(), 1);
        Check.due("the pattern", x.length(), 1);
    }

    private static void inEveryMode() {
        Check.sentence("boolean type(long word, int n)");
        Check.due("standing", Desks.standing().type(Check.word("h1"), 2), true);
        Check.due("running", Desks.running().type(Check.word("h1"), 2), true);
        Check.due("braking", Desks.braking().type(Check.word("h1"), 2), true);
        LoomDesk x = Desks.dark();
        Check.due("without power", x.type(Check.word("h8"), 2), true);
        x.on();
        Check.due("compile", x.compile(), 0);
        Check.due("what was there and what was typed", x.design(0, 0), 7);
        Check.due("what was there and what was typed", x.design(1, 0), 8);
    }
}
