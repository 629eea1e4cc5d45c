/** The numbers that are told: their bounds, how they are cut, and what is no number at all. */
public final class NumberBoundsTest {
    private static final double[] NO_NUMBERS = {Double.NaN, Double.longBitsToDouble(0xfff8000000000001L),
        Double.POSITIVE_INFINITY, Double.NEGATIVE_INFINITY};

    public static void main(String[] args) {
        turnIsCut();
        backIsCut();
        speedIsCut();
        ratiosAreCut();
        tensionsAreCut();
        noNumberAtAll();
        sixteenths();
        signsOfRests();
        boundsOfTurn();
        boundsOfBack();
        boundsOfSpeed();
        boundsOfRoll();
        boundsOfLetOff();
        Check.end();
    }

    private static void cut() {
        Check.sentence("another one that is within its bounds is cut to these, towards 0");
    }

    private static void turnIsCut() {
        cut();
        double[] told = {0.125, Math.nextDown(0.125), Math.nextUp(0.125), Math.nextDown(0.25), 0.3125,
            Double.MIN_VALUE, 359.99, Math.nextDown(3600.0)};
        double[] went = {0.125, 0, 0.125, 0.125, 0.25, 0, 359.875, 3599.875};
        for (int i = 0; i < told.length; i++) {
            LoomDesk x = Check.running("h1", 0);
            Check.due("turn " + told[i], x.turn(told[i]), went[i]);
            Check.due("angle behind " + told[i], x.angle(), went[i] % 360);
        }
    }

    private static void backIsCut() {
        cut();
        double[] told = {0.125, Math.nextDown(0.125), Math.nextUp(0.125), Math.nextDown(0.25), 0.3125,
            Double.MIN_VALUE, 59.99, Math.nextDown(1080.0)};
        double[] angle = {59.875, 60, 59.875, 59.875, 59.75, 60, 0.125, 60.125};
        for (int i = 0; i < told.length; i++) {
            Check.due("back " + told[i], Check.stopped("h1", 60).back(told[i]), angle[i]);
        }
    }

    private static double leftAt(float speed) {
        LoomDesk x = Check.desk("h1");
        Check.due("speed " + speed, x.speed(speed), true);
        x.start();
        x.stop();
        return x.left();
    }

    private static void speedIsCut() {
        cut();
        Check.due("left at 60.125", leftAt(60.125f), 30.0625);
        Check.due("left below 60.125", leftAt(Math.nextDown(60.125f)), 30.0);
        Check.due("left above 60.125", leftAt(Math.nextUp(60.125f)), 30.0625);
        Check.due("left at 100.3125", leftAt(100.3125f), 50.125);
        Check.due("left below 300", leftAt(Math.nextDown(300f)), 149.9375);
    }

    private static void ratiosAreCut() {
        cut();
        LoomDesk x = Check.running("h1", 360);
        double[] told = {0.125, Math.nextDown(0.125), Math.nextDown(0.25), 0.3125, Double.MIN_VALUE,
            Math.nextDown(4096.0)};
        double[] angle = {1.25, 0, 1.25, 2.5, 0, 278.75};
        for (int i = 0; i < told.length; i++) {
            Check.due("roll " + told[i], x.roll(told[i]), angle[i]);
            Check.due("roll " + -told[i], x.roll(-told[i]), -angle[i]);
        }
    }

    private static void tensionsAreCut() {
        cut();
        LoomDesk x = new LoomDesk();
        float[] told = {0.125f, Math.nextDown(0.125f), Math.nextDown(0.25f), 0.3125f, Float.MIN_VALUE,
            Math.nextDown(12.5f), Math.nextUp(12.5f)};
        int[] steps = {1, 0, 1, 2, 0, 99, 0};
        for (int i = 0; i < told.length; i++) {
            Check.due("letOff " + told[i], x.letOff(told[i]), steps[i]);
            Check.due("letOff " + -told[i], x.letOff(-told[i]), -steps[i]);
        }
    }

    private static void noNumberAtAll() {
        Check.sentence("what is no number at all is beyond any bounds");
        for (double d : NO_NUMBERS) {
            float f = (float) d;
            wrongTurn(d);
            wrongBack(d);
            Twin.refused("speed " + f, Desks::standing, x -> x.speed(f), false);
            Twin.refused("roll " + d, Desks::standing, x -> x.roll(d), 0.0);
            Twin.refused("letOff " + f, Desks::standing, x -> x.letOff(f), 0);
        }
    }

    private static void sixteenths() {
        Check.sentence("LEFT, and so the ANGLE, may come to sixteenths");
        LoomDesk x = Check.desk("c5h1");
        x.speed(60.125f);
        x.start();
        x.stop();
        Check.due("left", x.left(), 30.0625);
        Check.due("all but a sixteenth", x.turn(30), 30.0);
        Check.due("a sixteenth is left", x.left(), 0.0625);
        Check.due("it brakes", x.state(0), 2);
        Check.due("a turn by less than an eighth", x.turn(0.0625), 0.0);
        Check.due("a sixteenth is left", x.left(), 0.0625);
        Check.due("it goes a sixteenth", x.turn(0.125), 0.0625);
        Check.due("it stands", x.state(0), 0);
        Check.due("angle", x.angle(), 30.0625);
        Check.due("back", x.back(30), 0.0625);
        Check.due("back over 0", x.back(0.125), 359.9375);
        Check.due("turns", x.count(2), -1);
    }

    private static void signsOfRests() {
        Check.sentence("What is told as the rest of a division by a number has the sign of what is divided.");
        LoomDesk x = Check.running("h1", 360);
        Check.due("roll 35", x.roll(35), 350.0);
        Check.due("roll -35", x.roll(-35), -350.0);
        Check.due("roll 36", x.roll(36), 0.0);
        Check.due("roll -36", x.roll(-36), 0.0);
        Check.due("roll 37", x.roll(37), 10.0);
        Check.due("roll -37", x.roll(-37), -10.0);
        Check.due("letOff 12.375", x.letOff(12.375f), 99);
        Check.due("letOff -12.375", x.letOff(-12.375f), -99);
        Check.due("letOff 12.5", x.letOff(12.5f), 0);
        Check.due("letOff -12.5", x.letOff(-12.5f), 0);
        Check.due("letOff 12.625", x.letOff(12.625f), 1);
        Check.due("letOff -12.625", x.letOff(-12.625f), -1);
    }

    private static void wrongTurn(double d) {
        Twin.refused("turn " + d, Desks::running, x -> Check.outcome(() -> x.turn(d)), Check.ARGUMENT);
        Twin.refused("turn " + d, Desks::braking, x -> Check.outcome(() -> x.turn(d)), Check.ARGUMENT);
    }

    private static void wrongBack(double d) {
        Twin.refused("back " + d, Desks::standing, x -> Check.outcome(() -> x.back(d)), Check.ARGUMENT);
        Twin.refused("back " + d, Desks::broken, x -> Check.outcome(() -> x.back(d)), Check.ARGUMENT);
    }

    private static void boundsOfTurn() {
        Check.sentence("IllegalArgumentException: d is not 0 .. 3600.");
        LoomDesk x = Check.running("h1", 10);
        Check.due("turn 0", x.turn(0), 0.0);
        Check.due("turn -0", x.turn(-0.0), 0.0);
        Check.due("angle", x.angle(), 10.0);
        Check.due("turn 3600", x.turn(3600), 3600.0);
        Check.due("turns", x.count(2), 10);
        for (double d : new double[] {-Double.MIN_VALUE, -0.125, -3600, Math.nextUp(3600.0), 3600.125,
            Double.MAX_VALUE, -Double.MAX_VALUE}) {
            wrongTurn(d);
        }
    }

    private static void boundsOfBack() {
        Check.sentence("IllegalArgumentException: d is not 0 .. 1080.");
        LoomDesk x = Check.stopped("h1", 1090);
        Check.due("back 0", x.back(0), 10.0);
        Check.due("back -0", x.back(-0.0), 10.0);
        Check.due("turns", x.count(2), 3);
        Check.due("back 1080", x.back(1080), 10.0);
        Check.due("turns", x.count(2), 0);
        for (double d : new double[] {-Double.MIN_VALUE, -0.125, -1080, Math.nextUp(1080.0), 1080.125,
            3600, Double.MAX_VALUE, -Double.MAX_VALUE}) {
            wrongBack(d);
        }
    }

    private static void boundsOfSpeed() {
        Check.sentence("false if not, or if v is not 60 to 300.");
        Check.due("left at 60", leftAt(60), 30.0);
        Check.due("left at 300", leftAt(300), 150.0);
        for (float v : new float[] {Math.nextDown(60f), Math.nextUp(300f), 0, -0.0f, -60, -300,
            Float.MIN_VALUE, Float.MAX_VALUE, -Float.MAX_VALUE}) {
            Twin.refused("speed " + v, Desks::standing, x -> x.speed(v), false);
            Twin.refused("speed " + v, Desks::dark, x -> x.speed(v), false);
        }
    }

    private static void boundsOfRoll() {
        Check.sentence("times a ratio (-4096 to 4096), in degrees: the rest of that by 360; 0 for another ratio.");
        LoomDesk x = Check.running("h1", 360);
        Check.due("roll 4096", x.roll(4096), 280.0);
        Check.due("roll -4096", x.roll(-4096), -280.0);
        for (double ratio : new double[] {Math.nextUp(4096.0), 4096.125, 1e300, Double.MAX_VALUE}) {
            Twin.refused("roll " + ratio, Desks::running, y -> y.roll(ratio), 0.0);
            Twin.refused("roll " + -ratio, Desks::running, y -> y.roll(-ratio), 0.0);
        }
    }

    private static void boundsOfLetOff() {
        Check.sentence("for a tension (-1000000000 to 1000000000): the rest of the tension by 12.5, times 8,"
            + " as a whole number (towards 0); 0 for another one.");
        LoomDesk x = new LoomDesk();
        // The bound itself has no rest, as what is refused; its neighbours have one.
        Check.due("letOff of the bound", x.letOff(1000000000f), 0);
        Check.due("letOff of the other bound", x.letOff(-1000000000f), 0);
        Check.due("letOff below the bound", x.letOff(Math.nextDown(1000000000f)), 88);
        Check.due("letOff above the other bound", x.letOff(Math.nextUp(-1000000000f)), -88);
        for (float tension : new float[] {Math.nextUp(1000000000f), 1000000128f, 1e30f, Float.MAX_VALUE}) {
            Twin.refused("letOff " + tension, Desks::running, y -> y.letOff(tension), 0);
            Twin.refused("letOff " + -tension, Desks::running, y -> y.letOff(-tension), 0);
        }
    }
}
