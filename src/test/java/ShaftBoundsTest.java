/** The angles to which the shaft comes forwards and backwards, the brake, and what is LEFT. */
public final class ShaftBoundsTest {
    public static void main(String[] args) {
        belowAWholeTurn();
        speedAtFirst();
        notAtThirtyAgain();
        notAtNinetyAgain();
        notAtThreeHundredAgain();
        notAtZeroAgain();
        upToWhereItGoes();
        fromASixteenthBelow();
        turnByTurn();
        breakAtNinety();
        noPickAtTheEndOfATurn();
        missed();
        brakeOrdered();
        brakeNotOrdered();
        noFartherThanLeft();
        runsOutUpToAMark();
        leftIsTold();
        ninetyBackwards();
        zeroBackwards();
        turnsBackwards();
        nothingAtThreeHundredAndThirty();
        Check.end();
    }

    private static void belowAWholeTurn() {
        Check.sentence("THE SHAFT stands at an ANGLE from 0 to below 360 (0 at first)");
        LoomDesk x = Check.desk("h1");
        Check.due("at first", x.angle(), 0.0);
        x.start();
        x.turn(359.875);
        Check.due("below 360", x.angle(), 359.875);
        Check.due("turns", x.count(2), 0);
        x.turn(0.125);
        Check.due("0 of the next turn", x.angle(), 0.0);
        Check.due("turns", x.count(2), 1);
        x.turn(359.875);
        x.turn(0.25);
        Check.due("above 360", x.angle(), 0.125);
        x.stop();
        x.turn(60);
        Check.due("back", x.back(60.125), 0.0);
        Check.due("back over 0", x.back(0.125), 359.875);
    }

    private static void speedAtFirst() {
        Check.sentence("SPEED: 60 to 300 (120 at first)");
        LoomDesk x = Check.running("h1", 0);
        x.stop();
        Check.due("left", x.left(), 60.0);
    }

    private static void above() {
        Check.sentence("it comes to the angles 30, 90, 300, 360 (0 of the next turn)"
            + " that are above where it stands");
    }

    private static void notAtThirtyAgain() {
        above();
        LoomDesk x = Check.stopped("c1h1", 390);
        Check.due("compile", Check.compile(x, "c2h1"), 0);
        x.start();
        x.turn(359.875);
        Check.due("carrier ahead of 30", x.state(2), 1);
        x.turn(0.125);
        Check.due("carrier at 30", x.state(2), 2);
    }

    private static void notAtNinetyAgain() {
        above();
        LoomDesk x = Check.stopped("h1", 450);
        x.weft(true);
        x.start();
        x.turn(269.875);
        Check.due("in still", x.state(3), 1);
        Check.due("orders", x.state(5), 1);
        x.turn(0.125);
        Check.due("beaten", x.count(1), 2);
        x.turn(90);
        Check.due("broken at 90 of the next turn", x.state(3), 2);
        Check.due("orders", x.state(5), 2);
    }

    private static void notAtThreeHundredAgain() {
        above();
        LoomDesk x = Check.stopped("h1", 300);
        Check.due("shed", x.state(1), 1);
        Check.due("compile", Check.compile(x, "h2h3"), 0);
        x.speed(60);
        x.start();
        x.stop();
        x.turn(360);
        Check.due("angle", x.angle(), 330.0);
        Check.due("the shed stays", x.state(1), 1);
        x.back(40);
        x.cut(false);
        x.on();
        Check.due("no record was written", x.count(0), 0);
    }

    private static void notAtZeroAgain() {
        above();
        LoomDesk x = Check.stopped("h1h2", 360);
        Check.due("angle", x.angle(), 0.0);
        x.jump(0);
        x.start();
        x.turn(0);
        x.turn(20);
        Check.due("turns", x.count(2), 1);
        Check.due("beaten", x.count(1), 1);
        x.cut(false);
        x.on();
        Check.due("the record is that of the turn before", x.count(0), 1);
    }

    private static void upToWhereItGoes() {
        Check.sentence("up to d behind it, one after the other, turn by turn; and stands there at last");
        String text = "c3h9h8";
        Check.due("carrier below 30", Check.running(text, 29.875).state(2), 0);
        Check.due("carrier at 30", Check.running(text, 30).state(2), 3);
        Check.due("in below 90", Check.running(text, 89.875).state(3), 0);
        Check.due("in at 90", Check.running(text, 90).state(3), 1);
        Check.due("shed below 300", Check.running(text, 299.875).state(1), 0);
        Check.due("shed at 300", Check.running(text, 300).state(1), 9);
        Check.due("in below 360", Check.running(text, 359.875).state(3), 1);
        Check.due("beaten below 360", Check.running(text, 359.875).count(1), 0);
        LoomDesk x = Check.running(text, 360);
        Check.due("in at 360", x.state(3), 0);
        Check.due("beaten at 360", x.count(1), 1);
        Check.due("place at 360", x.count(0), 1);
        Check.due("angle at 360", x.angle(), 0.0);
        Check.due("carrier stays", x.state(2), 3);
        Check.due("shed stays", x.state(1), 9);
    }

    /** Running from a sixteenth below an angle of at least 30. */
    private static LoomDesk sixteenthBelow(String text, double angle) {
        LoomDesk x = Check.desk(text);
        x.speed(60.125f);
        x.start();
        Check.due("turn", x.turn(angle - 30), angle - 30);
        x.stop();
        Check.due("runs out", x.turn(360), 30.0625);
        Check.due("back", x.back(0.125), (angle - 0.0625) % 360);
        Check.due("start", x.start(), true);
        return x;
    }

    private static void fromASixteenthBelow() {
        Check.sentence("up to d behind it, one after the other, turn by turn; and stands there at last");
        LoomDesk x = sixteenthBelow("c3h9 c4h8", 390);
        x.cut(false);
        x.on();
        x.start();
        Check.due("turn", x.turn(0.0625), 0.0);
        Check.due("no carrier", x.state(2), 0);
        Check.due("turn", x.turn(0.125), 0.125);
        Check.due("angle", x.angle(), 30.0625);
        Check.due("carrier", x.state(2), 4);
        LoomDesk y = sixteenthBelow("h9", 90);
        Check.due("taken out", y.state(3), 0);
        Check.due("turn", y.turn(0.0625), 0.0);
        Check.due("none in", y.state(3), 0);
        Check.due("turn", y.turn(0.125), 0.125);
        Check.due("angle", y.angle(), 90.0625);
        Check.due("in", y.state(3), 1);
        LoomDesk z = sixteenthBelow("h9h8", 360);
        Check.due("in again", z.state(3), 1);
        Check.due("turns", z.count(2), 0);
        Check.due("turn", z.turn(0.125), 0.125);
        Check.due("angle", z.angle(), 0.0625);
        Check.due("turns", z.count(2), 1);
        Check.due("beaten", z.count(1), 1);
    }

    private static void turnByTurn() {
        Check.sentence("one after the other, turn by turn");
        LoomDesk x = Check.running("c1h1 c2h2 c3d50h3", 3599.875);
        Check.due("beaten", x.count(1), 9);
        Check.due("turns", x.count(2), 9);
        for (int i = 0; i < 9; i++) {
            Check.due("shed " + i, x.cloth(i, 0), 3 - i % 3);
            Check.due("carrier " + i, x.cloth(i, 1), 3 - i % 3);
            Check.due("density " + i, x.cloth(i, 2), i % 3 == 0 ? 50 : 100);
        }
        x.turn(0.125);
        Check.due("turns", x.count(2), 10);
    }

    private static void breakAtNinety() {
        Check.sentence("if the weft sensor was told a break: the pick is BROKEN, and the brake is ordered;"
            + " else it is IN; the sensor is good again");
        LoomDesk x = Check.running("h1", 89.875);
        x.weft(true);
        Check.due("turn", x.turn(0.125), 0.125);
        Check.due("broken", x.state(3), 2);
        Check.due("braking", x.state(0), 2);
        Check.due("left", x.left(), 60.0);
        Check.due("orders", x.state(5), 1);
        Check.due("runs out", x.turn(3600), 60.0);
        x.start();
        Check.due("over the next 90", x.turn(360), 360.0);
        Check.due("in", x.state(3), 1);
        Check.due("orders", x.state(5), 1);
        LoomDesk y = Check.running("h1", 90);
        y.weft(true);
        y.turn(359.875);
        Check.due("told behind 90", y.state(5), 0);
        y.weft(false);
        y.turn(0.125);
        Check.due("all is well", y.state(3), 1);
        Check.due("orders", y.state(5), 0);
    }

    private static void noPickAtTheEndOfATurn() {
        Check.sentence("Then none is IN or BROKEN; the RECORD 0 of PLACE is written;"
            + " the shaft has done one turn more.");
        LoomDesk x = Check.desk("h1h2h3");
        x.jump(2);
        Check.due("over 0", x.back(0.125), 359.875);
        Check.due("none in", x.state(3), 0);
        x.start();
        x.turn(0.125);
        Check.due("none beaten", x.count(1), 0);
        Check.due("none missed", x.state(4), 0);
        Check.due("place", x.count(0), 2);
        Check.due("turns", x.count(2), 0);
        x.cut(false);
        x.on();
        Check.due("the record", x.count(0), 2);
    }

    private static void missed() {
        Check.sentence("if it is BROKEN, it is MISSED");
        LoomDesk x = Desks.broken();
        Check.due("none missed", x.state(4), 0);
        x.start();
        x.turn(219.875);
        Check.due("broken below 360", x.state(3), 2);
        Check.due("none missed", x.state(4), 0);
        x.turn(0.125);
        Check.due("missed", x.state(4), 1);
        Check.due("none broken", x.state(3), 0);
        Check.due("place", x.count(0), 2);
        Check.due("beaten", x.count(1), 2);
        Check.due("taken up", x.state(6), 30);
        Check.due("turns", x.count(2), 3);
        x.cut(false);
        x.on();
        Check.due("the record", x.count(0), 2);
    }

    private static void brakeOrdered() {
        Check.sentence("if it is running, it is braking then, and SPEED / 2 degrees are LEFT");
        float[] speeds = {60, 60.125f, 120, 299.875f, 300};
        double[] left = {30, 30.0625, 60, 149.9375, 150};
        for (int i = 0; i < speeds.length; i++) {
            LoomDesk x = Check.desk("h1");
            x.speed(speeds[i]);
            x.start();
            Check.due("none left", x.left(), 0.0);
            x.stop();
            Check.due("mode", x.state(0), 2);
            Check.due("left", x.left(), left[i]);
            Check.due("orders", x.state(5), 1);
            Check.due("it goes", x.turn(3600), left[i]);
        }
    }

    private static void brakeNotOrdered() {
        Check.sentence("else nothing comes of it, and it is not counted");
        LoomDesk x = Check.running("h1", 40);
        x.stop();
        x.weft(true);
        Check.due("to 90, braking", x.turn(50), 50.0);
        Check.due("broken", x.state(3), 2);
        Check.due("left", x.left(), 10.0);
        Check.due("orders", x.state(5), 1);
        Check.due("the rest", x.turn(360), 10.0);
        LoomDesk y = Check.running("h1", 30);
        y.stop();
        y.weft(true);
        Check.due("to 90, and nothing is left", y.turn(360), 60.0);
        Check.due("broken", y.state(3), 2);
        Check.due("it stands", y.state(0), 0);
        Check.due("none left", y.left(), 0.0);
        Check.due("orders", y.state(5), 1);
    }

    private static void noFartherThanLeft() {
        Check.sentence("When braking it goes no farther than what is LEFT, and stands when nothing is.");
        double[] told = {49.875, 50, 50.125, 3600};
        for (double d : told) {
            LoomDesk x = Check.desk("h1");
            x.speed(100);
            x.start();
            x.stop();
            Check.due("turn " + d, x.turn(d), d < 50 ? d : 50);
            Check.due("mode behind " + d, x.state(0), d < 50 ? 2 : 0);
            Check.due("left behind " + d, x.left(), d < 50 ? 50 - d : 0);
            Check.due("angle behind " + d, x.angle(), d < 50 ? d : 50);
            Check.due("a turn more", Check.outcome(() -> x.turn(1)), d < 50 ? "0.125" : Check.STATE);
        }
        LoomDesk y = Desks.braking();
        Check.due("turn 0", y.turn(0), 0.0);
        Check.due("it brakes", y.state(0), 2);
        Check.due("left", y.left(), 40.0);
    }

    private static void runsOutUpToAMark() {
        Check.sentence("When braking it goes no farther than what is LEFT, and stands when nothing is.");
        String text = "c3h9h8";
        Check.due("carrier short of 30", Check.stopped("c3h9 c4h8", 389.875).state(2), 3);
        Check.due("carrier at 30", Check.stopped("c3h9 c4h8", 390).state(2), 4);
        Check.due("in short of 90", Check.stopped(text, 89.875).state(3), 0);
        Check.due("in at 90", Check.stopped(text, 90).state(3), 1);
        Check.due("shed short of 300", Check.stopped(text, 299.875).state(1), 0);
        Check.due("shed at 300", Check.stopped(text, 300).state(1), 9);
        Check.due("turns short of 360", Check.stopped(text, 359.875).count(2), 0);
        Check.due("turns at 360", Check.stopped(text, 360).count(2), 1);
        Check.due("angle at 360", Check.stopped(text, 360).angle(), 0.0);
    }

    private static void leftIsTold() {
        Check.sentence("Degrees that are LEFT when braking, else 0.");
        Check.due("new", new LoomDesk().left(), 0.0);
        Check.due("standing", Desks.standing().left(), 0.0);
        Check.due("running", Desks.running().left(), 0.0);
        Check.due("braking", Desks.braking().left(), 40.0);
        LoomDesk x = Desks.braking();
        x.cut(false);
        Check.due("no power", x.left(), 0.0);
        x.on();
        Check.due("power again", x.left(), 0.0);
        Check.due("it stands", Check.outcome(() -> x.turn(1)), Check.STATE);
    }

    private static void ninetyBackwards() {
        Check.sentence("that are not above where it stands, and above where it goes to, the highest first."
            + " At 90 a pick that is IN or BROKEN is taken out.");
        for (boolean broken : new boolean[] {false, true}) {
            int pick = broken ? 2 : 1;
            LoomDesk x = standsAtNinety(broken);
            Check.due("from 90 by 0", x.back(0), 90.0);
            Check.due("pick", x.state(3), pick);
            Check.due("from 90", x.back(0.125), 89.875);
            Check.due("taken out", x.state(3), 0);
            Check.due("none missed", x.state(4), 0);
            LoomDesk y = standsAtNinety(broken);
            y.start();
            y.stop();
            y.turn(60);
            Check.due("to 90", y.back(60), 90.0);
            Check.due("pick", y.state(3), pick);
            Check.due("below 90", y.back(0.125), 89.875);
            Check.due("taken out", y.state(3), 0);
        }
        LoomDesk z = sixteenthBelow("h1", 90);
        z.turn(0.125);
        z.stop();
        z.turn(360);
        Check.due("to a sixteenth above 90", z.back(30.0625), 90.125);
        Check.due("in", z.state(3), 1);
        Check.due("over 90", z.back(0.25), 89.875);
        Check.due("taken out", z.state(3), 0);
    }

    private static LoomDesk standsAtNinety(boolean broken) {
        LoomDesk x = Check.running("h1", 30);
        x.stop();
        x.weft(broken);
        Check.due("to 90", x.turn(360), 60.0);
        Check.due("pick", x.state(3), broken ? 2 : 1);
        return x;
    }

    private static void zeroBackwards() {
        Check.sentence("At 0: the newest pick of the cloth is off it, and it is IN (PLACE is the one before),"
            + " if the loom has one in mind, else none is IN");
        LoomDesk x = Check.stopped("h1 d50h2", 720);
        Check.due("from 0 by 0", x.back(0), 0.0);
        Check.due("turns", x.count(2), 2);
        Check.due("from 0", x.back(0.125), 359.875);
        zeroPassed(x);
        LoomDesk y = Check.stopped("h1 d50h2", 780);
        Check.due("to 0", y.back(60), 0.0);
        Check.due("turns", y.count(2), 2);
        Check.due("none in", y.state(3), 0);
        Check.due("beaten", y.count(1), 2);
        Check.due("over 0", y.back(0.125), 359.875);
        zeroPassed(y);
        LoomDesk z = Check.desk("h1h2");
        z.jump(1);
        z.back(10);
        Check.due("none in mind: none in", z.state(3), 0);
        Check.due("none in mind: place", z.count(0), 1);
        Check.due("none in mind: beaten", z.count(1), 0);
        Check.due("none in mind: taken up", z.state(6), 0);
        Check.due("none in mind: turns", z.count(2), -1);
    }

    private static void zeroPassed(LoomDesk x) {
        Check.due("turns", x.count(2), 1);
        Check.due("in", x.state(3), 1);
        Check.due("place", x.count(0), 1);
        Check.due("beaten", x.count(1), 1);
        Check.due("taken up", x.state(6), 10);
        Check.due("newest", x.cloth(0, 0), 1);
        Check.due("no other", x.cloth(1, 0), LoomDesk.NONE);
    }

    private static void turnsBackwards() {
        Check.sentence("it comes to the angles 300, 90, 30 and 0 of each turn"
            + " that are not above where it stands, and above where it goes to");
        double[] told = {359.875, 360, 360.125, 719.875, 720, 720.125, 1079.875, 1080};
        int[] zeros = {1, 1, 2, 2, 2, 3, 3, 3};
        for (int i = 0; i < told.length; i++) {
            LoomDesk x = Check.stopped("h1h2h3h4h5", 1800);
            x.back(told[i]);
            Check.due("turns behind " + told[i], x.count(2), 5 - zeros[i]);
            Check.due("beaten behind " + told[i], x.count(1), 5 - zeros[i]);
            Check.due("place behind " + told[i], x.count(0), 5 - zeros[i]);
            double angle = (1080 - told[i]) % 360;
            Check.due("angle behind " + told[i], x.angle(), angle);
            Check.due("in behind " + told[i], x.state(3), angle >= 90 ? 1 : 0);
        }
        LoomDesk y = Check.stopped("h1h2h3h4h5", 1830);
        Check.due("from 30", y.back(1080), 30.0);
        Check.due("turns", y.count(2), 2);
        Check.due("beaten", y.count(1), 2);
    }

    private static void nothingAtThreeHundredAndThirty() {
        Check.sentence("At 300, 30: nothing.");
        LoomDesk x = Check.stopped("c1h1 c2h2 c3h3", 1030);
        Check.due("shed", x.state(1), 3);
        Check.due("compile", Check.compile(x, "c7h7 c6h6"), 0);
        Check.due("over 300", x.back(20), 290.0);
        Check.due("shed", x.state(1), 3);
        Check.due("over 90 and 30", x.back(280), 10.0);
        Check.due("carrier", x.state(2), 3);
        x.jump(1);
        x.cut(false);
        x.on();
        Check.due("no record was written", x.count(0), 0);
    }
}
