/** Promises 18 to 22: roll, letOff, state, count, cloth. */
public final class ClothTest {
    public static void main(String[] args) {
        promise18Roll();
        promise18WrongRatios();
        promise19LetOff();
        promise20State();
        promise20TakenUp();
        promise21Count();
        promise22Cloth();
        promise22InMind();
        Check.end();
    }

    private static void promise18Roll() {
        LoomDesk x = Check.running("d160h1", 360);
        Check.due("roll 0", x.roll(0), 0.0);
        Check.due("roll 1", x.roll(1), 6.25);
        Check.due("roll 0.125", x.roll(0.125), 0.78125);
        Check.due("roll cut to eighths", x.roll(0.2499), 0.78125);
        Check.due("roll cut towards 0", x.roll(-0.2499), -0.78125);
        Check.due("roll cut to 0", x.roll(-0.1249), 0.0);
        Check.due("roll 57.5", x.roll(57.5), 359.375);
        Check.due("roll 57.625", x.roll(57.625), 0.15625);
        Check.due("roll -57.625", x.roll(-57.625), -0.15625);
        Check.due("roll 4096", x.roll(4096), 40.0);
        Check.due("roll -4096", x.roll(-4096), -40.0);
        x.turn(3240);
        x.turn(3600);
        Check.due("20 picks", x.count(1), 20);
        Check.due("roll of 125", x.roll(4096), 80.0);
        x.cut(true);
        Check.due("roll without power", x.roll(1), 125.0);
    }

    private static void promise18WrongRatios() {
        LoomDesk x = Check.running("d20h1", 360);
        double[] wrong = {4096.0001, -4096.0001, 1e300, -1e300, Double.NaN,
            Double.POSITIVE_INFINITY, Double.NEGATIVE_INFINITY};
        for (double ratio : wrong) {
            Check.due("roll " + ratio, x.roll(ratio), 0.0);
        }
        Check.due("roll 4095.99", x.roll(4095.99), (50 * 4095.875) % 360);
        Check.due("roll 1", x.roll(1), 50.0);
    }

    private static void promise19LetOff() {
        LoomDesk x = new LoomDesk();
        float[] tensions = {0, 12.5f, 12.625f, 12.374f, 0.25f, 0.24f, -0.24f, -12.4f, -12.625f, 100,
            1000000000f, -1000000000f, 999999936f, 16777217f, -16777218f};
        int[] steps = {0, 0, 1, 98, 2, 1, -1, -99, -1, 0,
            0, 0, 88, 28, -44};
        for (int i = 0; i < tensions.length; i++) {
            Check.due("letOff " + tensions[i], x.letOff(tensions[i]), steps[i]);
        }
        float[] wrong = {1000000064f, -1000000064f, Float.MAX_VALUE, -Float.MAX_VALUE, Float.NaN,
            Float.POSITIVE_INFINITY, Float.NEGATIVE_INFINITY};
        for (float tension : wrong) {
            Check.due("letOff " + tension, x.letOff(tension), 0);
        }
        x.cut(false);
        Check.due("letOff without power", x.letOff(1.5f), 12);
    }

    private static void promise20State() {
        LoomDesk x = Check.running("c5 ha", 1);
        int[] wrong = {-1, 8, Integer.MIN_VALUE, Integer.MAX_VALUE};
        for (int what : wrong) {
            Check.due("state " + what, x.state(what), LoomDesk.NONE);
        }
        x.turn(320);
        int[] states = {1, 10, 5, 1, 0, 0, 0, 1};
        expect(x, states);
        x.turn(100);
        x.weft(true);
        x.turn(30);
        expect(x, new int[] {2, 10, 5, 2, 0, 1, 10, 1});
        x.turn(60);
        x.start();
        x.turn(210);
        expect(x, new int[] {1, 10, 5, 0, 1, 1, 10, 1});
        x.cut(false);
        expect(x, new int[] {0, 0, 0, 0, 1, 1, 10, 0});
    }

    private static void expect(LoomDesk x, int[] states) {
        for (int what = 0; what < states.length; what++) {
            Check.due("state " + what, x.state(what), states[what]);
        }
    }

    private static void promise20TakenUp() {
        int[] densities = {20, 25, 40, 50, 80, 100, 125, 160, 200, 250, 400};
        double[] each = {50, 40, 25, 20, 12.5, 10, 8, 6.25, 5, 4, 2.5};
        for (int i = 0; i < densities.length; i++) {
            LoomDesk x = Check.running("d" + densities[i] + "h1", 360);
            Check.due("taken up by " + densities[i], x.roll(1), each[i]);
            Check.due("downwards", x.state(6), (int) each[i]);
            x.turn(720);
            Check.due("three times", x.state(6), (int) (3 * each[i]));
        }
        LoomDesk y = Check.running("d160h1h2h3 d80h4", 1440);
        Check.due("sum", y.state(6), 31);
        y.stop();
        y.turn(60);
        y.back(70);
        Check.due("less what came off", y.roll(1), 18.75);
        Check.due("downwards", y.state(6), 18);
    }

    private static void promise21Count() {
        LoomDesk x = Check.running("h1h2h3", 400);
        Check.due("place", x.count(0), 1);
        Check.due("beaten", x.count(1), 1);
        Check.due("turns", x.count(2), 1);
        int[] wrong = {-1, 3, Integer.MIN_VALUE, Integer.MAX_VALUE};
        for (int what : wrong) {
            Check.due("count " + what, x.count(what), LoomDesk.NONE);
        }
        x.weft(true);
        x.turn(110);
        x.start();
        x.turn(360);
        Check.due("place behind a missed pick", x.count(0), 1);
        Check.due("beaten behind a missed pick", x.count(1), 1);
        Check.due("turns behind a missed pick", x.count(2), 2);
        x.stop();
        x.turn(60);
        x.back(1080);
        Check.due("beaten", x.count(1), 0);
        Check.due("place", x.count(0), 0);
        Check.due("turns below 0", x.count(2), -1);
    }

    private static void promise22Cloth() {
        LoomDesk x = Check.running("c1h5 c2 d50 h6", 720);
        int[][] newestFirst = {{6, 2, 50}, {5, 1, 100}};
        for (int i = 0; i < 2; i++) {
            for (int what = 0; what < 3; what++) {
                Check.due("cloth " + i + " " + what, x.cloth(i, what), newestFirst[i][what]);
            }
        }
        int[] wrong = {-1, 2, 63, 64, Integer.MIN_VALUE, Integer.MAX_VALUE};
        for (int i : wrong) {
            Check.due("cloth " + i, x.cloth(i, 0), LoomDesk.NONE);
        }
        int[] others = {-1, 3, Integer.MIN_VALUE, Integer.MAX_VALUE};
        for (int what : others) {
            Check.due("what " + what, x.cloth(0, what), LoomDesk.NONE);
        }
        x.cut(false);
        Check.due("gone with the power", x.cloth(0, 0), LoomDesk.NONE);
        Check.due("but not how many", x.count(1), 2);
        x.on();
        Check.due("gone with the power", x.cloth(0, 0), LoomDesk.NONE);
        x.back(10);
        Check.due("none comes off", x.count(1), 2);
        Check.due("none in", x.state(3), 0);
        Check.due("place stays", x.count(0), 0);
        Check.due("taken up stays", x.state(6), 30);
    }

    private static void promise22InMind() {
        LoomDesk x = new LoomDesk();
        StringBuilder text = new StringBuilder();
        for (int i = 0x10; i < 0x10 + 35; i++) {
            text.append('h').append(Integer.toHexString(i)).append(' ');
        }
        Check.compile(x, "r2(" + text + ")");
        Check.due("length", x.length(), 70);
        x.start();
        for (int i = 0; i < 7; i++) {
            x.turn(3600);
        }
        for (int i = 0; i < 64; i++) {
            Check.due("cloth " + i, x.cloth(i, 0), x.design(69 - i, 0));
        }
        Check.due("no more than 64", x.cloth(64, 0), LoomDesk.NONE);
        Check.due("beaten", x.count(1), 70);
        x.stop();
        x.turn(60);
        for (int i = 0; i < 22; i++) {
            x.back(1080);
        }
        Check.due("64 came off", x.count(1), 6);
        Check.due("nothing in mind", x.cloth(0, 0), LoomDesk.NONE);
        Check.due("place", x.count(0), 6);
        Check.due("taken up", x.state(6), 60);
        Check.due("turns", x.count(2), 70 - 66);
        x.start();
        x.turn(360);
        Check.due("beaten", x.count(1), 7);
        Check.due("the newest", x.cloth(0, 0), 0x16);
        Check.due("one alone", x.cloth(1, 0), LoomDesk.NONE);
    }
}
