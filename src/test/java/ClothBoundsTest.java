import java.util.ArrayList;
import java.util.List;

/** PLACE at both ends of the pattern, the cloth, what is TAKEN UP; promises 20, 21 and 22. */
public final class ClothBoundsTest {
    private static final int[] OTHER_INTS = {256, 1 << 16, Integer.MIN_VALUE, Integer.MIN_VALUE + 1,
        Integer.MAX_VALUE};

    public static void main(String[] args) {
        behindTheLast();
        aheadOfTheFirst();
        newest64();
        sixtyFourComeOff();
        filledAgain();
        takenUp();
        takenUpOfAnotherPattern();
        beatenUpWith();
        mostCalls();
        states();
        takenUpDownwards();
        counts();
        picksOfTheCloth();
        Check.end();
    }

    private static void behindTheLast() {
        Check.sentence("PLACE is the next one (behind the last one the first)");
        LoomDesk one = Check.running("h1", 720);
        Check.due("of one", one.count(0), 0);
        LoomDesk three = Check.running("h1h2h3", 720);
        Check.due("the last", three.count(0), 2);
        three.turn(359.875);
        Check.due("the last still", three.count(0), 2);
        three.turn(0.125);
        Check.due("the first", three.count(0), 0);
        LoomDesk most = Check.desk("r2000(r1000(r1000(h1)))");
        most.jump(1999999998L);
        most.start();
        most.turn(360);
        Check.due("the last of the most", most.count(0), 1999999999L);
        most.turn(360);
        Check.due("the first", most.count(0), 0);
    }

    private static void aheadOfTheFirst() {
        Check.sentence("it is IN (PLACE is the one before)");
        LoomDesk one = Check.stopped("h1", 720);
        one.back(10);
        Check.due("of one", one.count(0), 0);
        LoomDesk three = Check.stopped("h1h2h3", 1800);
        Check.due("place", three.count(0), 2);
        long[] before = {1, 0, 2, 1, 0};
        for (long place : before) {
            three.back(360);
            Check.due("the one before", three.count(0), place);
        }
        three.back(360);
        Check.due("none in mind", three.count(0), 0);
        LoomDesk most = Check.desk("r2000(r1000(r1000(h1)))");
        most.jump(1999999999L);
        most.start();
        most.turn(360);
        most.stop();
        most.turn(60);
        Check.due("place", most.count(0), 0);
        most.back(70);
        Check.due("the last of the most", most.count(0), 1999999999L);
    }

    /** Standing at 0 with so many picks beaten up, whose sheds are 1, 2, 3 .. from the first one on. */
    private static LoomDesk woven(int picks) {
        StringBuilder text = new StringBuilder();
        for (int i = 1; i <= 35; i++) {
            text.append('h').append(Integer.toHexString(i)).append(' ');
        }
        LoomDesk x = Check.desk(text + "r2(h24 h25 h26)");
        x.start();
        for (int rest = picks * 360 - 60; rest > 0; rest -= 3600) {
            x.turn(Math.min(rest, 3600));
        }
        x.stop();
        x.turn(60);
        Check.due("beaten", x.count(1), picks);
        Check.due("angle", x.angle(), 0.0);
        return x;
    }

    private static int shed(int pick) {
        int place = (pick - 1) % 41 + 1;
        return place <= 38 ? place : place - 3;
    }

    private static void newest64() {
        Check.sentence("the loom has the newest 64 picks in mind");
        for (int picks : new int[] {1, 2, 63, 64, 65, 127, 128, 129, 130}) {
            LoomDesk x = woven(picks);
            int known = Math.min(picks, 64);
            for (int i = 0; i < known; i++) {
                Check.due("pick " + i + " of " + picks, x.cloth(i, 0), shed(picks - i));
            }
            for (int i : new int[] {known, known + 1, 64, 65, 127, 128}) {
                Check.due("pick " + i + " of " + picks, x.cloth(i, 0), i < known ? shed(picks - i) : -1);
            }
        }
    }

    private static void sixtyFourComeOff() {
        Check.sentence("the newest pick of the cloth is off it, and it is IN (PLACE is the one before),"
            + " if the loom has one in mind, else none is IN");
        LoomDesk x = woven(65);
        for (int i = 0; i < 21; i++) {
            x.back(1080);
        }
        Check.due("63 are off", x.count(1), 2);
        Check.due("one in mind", x.cloth(0, 0), shed(2));
        Check.due("no other", x.cloth(1, 0), LoomDesk.NONE);
        Check.due("taken up", x.state(6), 20);
        x.back(10);
        Check.due("64 are off", x.count(1), 1);
        Check.due("in", x.state(3), 1);
        Check.due("none in mind", x.cloth(0, 0), LoomDesk.NONE);
        Check.due("place", x.count(0), 1);
        Check.due("taken up", x.state(6), 10);
        x.back(360);
        Check.due("no 65th", x.count(1), 1);
        Check.due("none in", x.state(3), 0);
        Check.due("place", x.count(0), 1);
        Check.due("taken up", x.state(6), 10);
        Check.due("turns", x.count(2), 0);
    }

    private static void filledAgain() {
        Check.sentence("the loom has the newest 64 picks in mind");
        LoomDesk x = woven(70);
        x.back(1080);
        Check.due("three are off", x.count(1), 67);
        Check.due("61 in mind", x.cloth(60, 0), shed(7));
        Check.due("no 62nd", x.cloth(61, 0), LoomDesk.NONE);
        x.start();
        x.turn(1080);
        Check.due("64 again", x.cloth(63, 0), shed(7));
        x.turn(360);
        Check.due("the oldest is out of mind", x.cloth(63, 0), shed(8));
        Check.due("64 and no more", x.cloth(64, 0), LoomDesk.NONE);
        Check.due("the newest", x.cloth(0, 0), shed(71));
    }

    private static void takenUp() {
        Check.sentence("TAKEN UP is the sum of 1000 / DENSITY of all that were beaten up,"
            + " less those that came off.");
        int[] densities = {20, 25, 40, 50, 80, 100, 125, 160, 200, 250, 400};
        for (int d : densities) {
            LoomDesk x = Check.stopped("d" + d + "h1", 1080);
            Check.due("three of " + d, x.roll(1), 3 * 1000.0 / d);
            x.back(0.125);
            Check.due("two of " + d, x.roll(1), 2 * 1000.0 / d);
            x.back(720);
            Check.due("none of " + d, x.roll(1), 0.0);
            x.back(360);
            Check.due("no less than none of " + d, x.roll(1), 0.0);
        }
    }

    private static void takenUpOfAnotherPattern() {
        Check.sentence("TAKEN UP is the sum of 1000 / DENSITY of all that were beaten up,"
            + " less those that came off.");
        LoomDesk x = Check.stopped("d20h1", 720);
        Check.due("compile", Check.compile(x, "d400h2h3"), 0);
        x.back(0.125);
        Check.due("less the density that it had", x.roll(1), 50.0);
        Check.due("place in the new pattern", x.count(0), 1);
        x.start();
        x.turn(0.125);
        Check.due("more by the density of the new pattern", x.roll(1), 52.5);
        Check.due("the shed that was up", x.cloth(0, 0), 1);
    }

    private static void beatenUpWith() {
        Check.sentence("it comes to the CLOTH with the shed, the carrier and the DENSITY of the pick at PLACE");
        LoomDesk x = Check.stopped("c1d20h1 c2d40h2 c3d80h3", 720);
        Check.due("back over 0", x.back(70), 290.0);
        Check.due("compile", Check.compile(x, "c7d400h7 h6"), 0);
        x.start();
        x.turn(70);
        int[] newest = {7, 2, 400};
        int[] before = {1, 1, 20};
        for (int what = 0; what < 3; what++) {
            Check.due("cloth 0 " + what, x.cloth(0, what), newest[what]);
            Check.due("cloth 1 " + what, x.cloth(1, what), before[what]);
        }
    }

    private static void mostCalls() {
        Check.sentence("An object is used for at most 512 calls after it has been made");
        LoomDesk x = Check.desk("d20h1");
        int calls = 2;
        x.start();
        calls++;
        int turns = 0;
        while (calls < 506) {
            x.turn(3600);
            calls++;
            turns += 10;
        }
        Check.due("beaten", x.count(1), turns);
        Check.due("turns", x.count(2), turns);
        Check.due("taken up", x.state(6), 50 * turns);
        Check.due("roll", x.roll(4095.875), 50.0 * turns * 4095.875 % 360);
        Check.due("roll", x.roll(-4096), -50.0 * turns * 4096 % 360);
        Check.due("the oldest in mind", x.cloth(63, 2), 20);
    }

    private static List<Integer> others(int... near) {
        List<Integer> all = new ArrayList<>();
        for (int n : near) {
            all.add(n);
        }
        for (int n : OTHER_INTS) {
            all.add(n);
        }
        return all;
    }

    private static void states() {
        Check.sentence("7: 1 with power, else 0. NONE for another what.");
        int[] running = {1, 2, 2, 0, 0, 0, 30, 1};
        int[] braking = {2, 2, 3, 0, 0, 1, 30, 1};
        int[] standing = {0, 2, 2, 0, 0, 1, 30, 1};
        int[] broken = {0, 2, 3, 2, 0, 1, 30, 1};
        int[] dark = {0, 0, 0, 0, 0, 0, 30, 0};
        for (int what = 0; what < 8; what++) {
            Check.due("running " + what, Desks.running().state(what), running[what]);
            Check.due("braking " + what, Desks.braking().state(what), braking[what]);
            Check.due("standing " + what, Desks.standing().state(what), standing[what]);
            Check.due("broken " + what, Desks.broken().state(what), broken[what]);
            Check.due("no power " + what, Desks.dark().state(what), dark[what]);
            Check.due("bare " + what, Desks.bare().state(what), what == 7 ? 1 : 0);
        }
        for (int what : others(-1, 8, 9)) {
            Twin.refused("state " + what, Desks::broken, x -> x.state(what), LoomDesk.NONE);
        }
    }

    private static void takenUpDownwards() {
        Check.sentence("6: what is TAKEN UP, downwards");
        LoomDesk x = Check.desk("d160h1");
        x.start();
        int[] each = {0, 6, 12, 18, 25, 31};
        for (int i = 0; i < each.length; i++) {
            Check.due("of " + i, x.state(6), each[i]);
            x.turn(360);
        }
    }

    private static void counts() {
        Check.sentence("2: turns. NONE for another what.");
        for (int what = 0; what < 3; what++) {
            Check.due("count " + what, Desks.running().count(what), 2);
            Check.due("bare " + what, Desks.bare().count(what), 0);
        }
        for (int what : others(-1, 3, 4)) {
            Twin.refused("count " + what, Desks::broken, x -> x.count(what), LoomDesk.NONE);
        }
    }

    private static void picksOfTheCloth() {
        Check.sentence("NONE if there is none such, or for another what.");
        int[][] woven = {{2, 2, 50}, {1, 1, 100}};
        for (int what = 0; what < 3; what++) {
            int which = what;
            Check.due("the newest", Desks.running().cloth(0, what), woven[0][what]);
            Check.due("the oldest", Desks.running().cloth(1, what), woven[1][what]);
            Check.due("no cloth", Desks.bare().cloth(0, what), LoomDesk.NONE);
            Check.due("out of mind", Desks.dark().cloth(0, what), LoomDesk.NONE);
            for (int i : others(-1, 2, 3, 62, 63, 64, -64)) {
                Twin.refused("cloth " + i, Desks::running, x -> x.cloth(i, which), LoomDesk.NONE);
            }
        }
        for (int what : others(-1, 3, 4)) {
            Twin.refused("what " + what, Desks::running, x -> x.cloth(0, what), LoomDesk.NONE);
        }
    }
}
