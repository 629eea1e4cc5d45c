/** Promises 6 to 9, 11, 13, 16 and 17: start, stop, turn, back, findPick, speed, angle, left. */
public final class ShaftTest {
    public static void main(String[] args) {
        promise6Start();
        promise7Stop();
        promise8MarksOfATurn();
        promise8WhatItAnswers();
        promise8BreakWhileGoing();
        promise8ManyTurns();
        promise8Throws();
        promise9MarksBackwards();
        promise9OverZero();
        promise9TwoTurnsBack();
        promise9Throws();
        promise11FindPick();
        promise13Speed();
        promises16And17Sixteenths();
        Check.end();
    }

    private static void promise6Start() {
        LoomDesk x = new LoomDesk();
        Check.due("start without a pattern", x.start(), false);
        Check.compile(x, "h1");
        x.cut(false);
        Check.due("start without power", x.start(), false);
        x.on();
        Check.due("start", x.start(), true);
        Check.due("mode", x.state(0), 1);
        Check.due("start of a running one", x.start(), false);
        x.stop();
        Check.due("start of a braking one", x.start(), false);
        Check.due("mode", x.state(0), 2);
        x.turn(60);
        Check.due("start again", x.start(), true);
        Check.due("the angle stays", x.angle(), 60.0);
    }

    private static void promise7Stop() {
        LoomDesk x = Check.desk("h1");
        Check.due("stop of a standing one", x.stop(), false);
        x.start();
        Check.due("stop", x.stop(), true);
        Check.due("mode", x.state(0), 2);
        Check.due("left", x.left(), 60.0);
        Check.due("orders", x.state(5), 1);
        Check.due("stop of a braking one", x.stop(), false);
        Check.due("orders are not counted then", x.state(5), 1);
        Check.due("turn", x.turn(20), 20.0);
        Check.due("left", x.left(), 40.0);
        Check.due("stop again", x.stop(), false);
        Check.due("left stays", x.left(), 40.0);
        Check.due("turn 0", x.turn(0), 0.0);
        Check.due("mode", x.state(0), 2);
        Check.due("turn the rest", x.turn(40), 40.0);
        Check.due("mode", x.state(0), 0);
        Check.due("left", x.left(), 0.0);
        x.start();
        x.stop();
        Check.due("orders", x.state(5), 2);
        x.cut(false);
        Check.due("stop without power", x.stop(), false);
        Check.due("left without power", x.left(), 0.0);
    }

    private static void promise8MarksOfATurn() {
        LoomDesk x = Check.running("c3 h5 c4 d200 h6", 29.875);
        Check.due("carrier ahead of 30", x.state(2), 0);
        x.turn(0.125);
        Check.due("carrier at 30", x.state(2), 3);
        x.turn(59.875);
        Check.due("ahead of 90", x.state(3), 0);
        x.turn(0.125);
        Check.due("in at 90", x.state(3), 1);
        x.turn(209.875);
        Check.due("shed ahead of 300", x.state(1), 0);
        x.turn(0.125);
        Check.due("shed at 300", x.state(1), 5);
        x.turn(59.875);
        Check.due("angle", x.angle(), 359.875);
        Check.due("beaten ahead of 360", x.count(1), 0);
        Check.due("turns ahead of 360", x.count(2), 0);
        x.turn(0.125);
        Check.due("angle", x.angle(), 0.0);
        Check.due("none in", x.state(3), 0);
        Check.due("beaten", x.count(1), 1);
        Check.due("turns", x.count(2), 1);
        Check.due("place", x.count(0), 1);
        Check.due("taken up", x.state(6), 10);
        x.turn(360);
        Check.due("behind the last the first", x.count(0), 0);
        Check.due("carrier", x.state(2), 4);
        Check.due("shed", x.state(1), 6);
        Check.due("taken up", x.state(6), 15);
    }

    private static void promise8WhatItAnswers() {
        LoomDesk x = Check.desk("h1");
        x.start();
        Check.due("0", x.turn(0), 0.0);
        Check.due("-0", x.turn(-0.0), 0.0);
        Check.due("cut to eighths", x.turn(10.24), 10.125);
        Check.due("cut to eighths", x.turn(0.1249), 0.0);
        Check.due("angle", x.angle(), 10.125);
        Check.due("most", x.turn(3600), 3600.0);
        Check.due("angle", x.angle(), 10.125);
        Check.due("turns", x.count(2), 10);
        x.stop();
        Check.due("fewer", x.turn(3600), 60.0);
        Check.due("angle", x.angle(), 70.125);
    }

    private static void promise8BreakWhileGoing() {
        LoomDesk x = Check.desk("h1h2");
        x.weft(true);
        x.start();
        Check.due("to the break", x.turn(90), 90.0);
        Check.due("broken", x.state(3), 2);
        Check.due("braking", x.state(0), 2);
        Check.due("left", x.left(), 60.0);
        Check.due("orders", x.state(5), 1);
        Check.due("runs out", x.turn(100), 60.0);
        Check.due("stands", x.state(0), 0);
        x.start();
        Check.due("over 360 with a broken pick", x.turn(210), 210.0);
        Check.due("missed", x.state(4), 1);
        Check.due("none broken", x.state(3), 0);
        Check.due("place stays", x.count(0), 0);
        Check.due("none beaten", x.count(1), 0);
        Check.due("turns", x.count(2), 1);
        Check.due("the sensor is good again", x.turn(90), 90.0);
        Check.due("in", x.state(3), 1);
        Check.due("runs", x.state(0), 1);
        breakBehindTheBrake();
    }

    private static void breakBehindTheBrake() {
        LoomDesk x = Check.running("h1h2", 360);
        x.turn(40);
        x.stop();
        x.weft(true);
        Check.due("over 90 behind the brake", x.turn(3600), 60.0);
        Check.due("angle", x.angle(), 100.0);
        Check.due("broken", x.state(3), 2);
        Check.due("not ordered again", x.state(5), 1);
        Check.due("stands", x.state(0), 0);
        LoomDesk y = Check.running("h1h2", 30);
        y.stop();
        y.weft(true);
        Check.due("stands at 90 itself", y.turn(360), 60.0);
        Check.due("broken", y.state(3), 2);
        Check.due("not ordered again", y.state(5), 1);
        Check.due("stands", y.state(0), 0);
    }

    private static void promise8ManyTurns() {
        LoomDesk x = Check.running("h1h2h3", 3600);
        Check.due("place", x.count(0), 1);
        Check.due("beaten", x.count(1), 10);
        Check.due("turns", x.count(2), 10);
        Check.due("newest", x.cloth(0, 0), 1);
        x.turn(359);
        x.turn(3600);
        Check.due("turns", x.count(2), 20);
        Check.due("angle", x.angle(), 359.0);
        Check.due("place", x.count(0), 2);
    }

    private static void promise8Throws() {
        LoomDesk x = Check.desk("h1");
        Check.due("stands", Check.outcome(() -> x.turn(1)), Check.STATE);
        Check.due("stands, and more than 3600", Check.outcome(() -> x.turn(3601)), Check.STATE);
        x.start();
        double[] wrong = {-0.125, -1e-300, 3600.0001, 3600.125, 1e300, -1e300, Double.NaN,
            Double.POSITIVE_INFINITY, Double.NEGATIVE_INFINITY};
        for (double d : wrong) {
            Check.due("turn " + d, Check.outcome(() -> x.turn(d)), Check.ARGUMENT);
        }
        Check.due("nothing came of it", x.angle(), 0.0);
        Check.due("still running", x.state(0), 1);
        x.cut(false);
        Check.due("no power", Check.outcome(() -> x.turn(1)), Check.STATE);
        x.on();
        Check.due("stands with power", Check.outcome(() -> x.turn(1)), Check.STATE);
    }

    private static void promise9MarksBackwards() {
        LoomDesk x = Check.stopped("c1h1 c2h2", 310);
        Check.due("in", x.state(3), 1);
        Check.due("over 300", x.back(20), 290.0);
        Check.due("the shed stays", x.state(1), 1);
        Check.due("in", x.state(3), 1);
        Check.due("to 90", x.back(200), 90.0);
        Check.due("90 is not above where it goes to", x.state(3), 1);
        Check.due("back 0", x.back(0), 90.0);
        Check.due("in", x.state(3), 1);
        Check.due("from 90", x.back(0.125), 89.875);
        Check.due("taken out", x.state(3), 0);
        Check.due("to 0", x.back(89.875), 0.0);
        Check.due("the carrier stays", x.state(2), 1);
        Check.due("turns", x.count(2), 0);
        Check.due("cut to eighths", x.back(0.1249), 0.0);
        Check.due("turns", x.count(2), 0);
        Check.due("over 0 without cloth", x.back(0.125), 359.875);
        Check.due("turns", x.count(2), -1);
        Check.due("none in", x.state(3), 0);
        Check.due("place stays", x.count(0), 0);
        Check.due("beaten stays", x.count(1), 0);
        x.start();
        x.turn(0.125);
        Check.due("nothing to beat up", x.count(1), 0);
        Check.due("nothing missed", x.state(4), 0);
        Check.due("place stays", x.count(0), 0);
        Check.due("turns", x.count(2), 0);
    }

    private static void promise9OverZero() {
        LoomDesk x = Check.stopped("c1 d200h1 c2 d50h2", 780);
        Check.due("beaten", x.count(1), 2);
        Check.due("taken up", x.state(6), 25);
        Check.due("place", x.count(0), 0);
        Check.due("back", x.back(70), 350.0);
        Check.due("in", x.state(3), 1);
        Check.due("ahead of the first the last", x.count(0), 1);
        Check.due("beaten", x.count(1), 1);
        Check.due("turns", x.count(2), 1);
        Check.due("taken up", x.state(6), 5);
        Check.due("the newest", x.cloth(0, 0), 1);
        Check.due("no other", x.cloth(1, 0), LoomDesk.NONE);
        x.start();
        x.turn(10);
        Check.due("beaten up again", x.count(1), 2);
        Check.due("shed", x.cloth(0, 0), 2);
        Check.due("taken up", x.state(6), 25);
    }

    private static void promise9TwoTurnsBack() {
        LoomDesk x = Check.stopped("c1 d400h1 c2h2 c3h3", 1090);
        Check.due("back", x.back(1080), 10.0);
        Check.due("turns", x.count(2), 0);
        Check.due("all are off", x.count(1), 0);
        Check.due("taken up", x.state(6), 0);
        Check.due("none in", x.state(3), 0);
        Check.due("place", x.count(0), 0);
        LoomDesk y = Check.stopped("c1h1 c2h2 c3h3", 790);
        y.back(440);
        Check.due("angle", y.angle(), 350.0);
        Check.due("place", y.count(0), 0);
        y.start();
        y.turn(10);
        Check.due("the shed that is up", y.cloth(0, 0), 2);
        Check.due("the carrier that is there", y.cloth(0, 1), 3);
        Check.due("the density of the pick", y.cloth(0, 2), 100);
    }

    private static void promise9Throws() {
        LoomDesk x = new LoomDesk();
        Check.due("no pattern", Check.outcome(() -> x.back(1)), Check.STATE);
        Check.due("no pattern, and too much", Check.outcome(() -> x.back(2000)), Check.STATE);
        Check.compile(x, "h1");
        double[] wrong = {-0.125, -1e-300, 1080.0001, 1080.125, 1e300, -1e300, Double.NaN,
            Double.POSITIVE_INFINITY, Double.NEGATIVE_INFINITY};
        for (double d : wrong) {
            Check.due("back " + d, Check.outcome(() -> x.back(d)), Check.ARGUMENT);
        }
        Check.due("-0", x.back(-0.0), 0.0);
        Check.due("most", x.back(1080), 0.0);
        Check.due("turns", x.count(2), -3);
        x.start();
        Check.due("running", Check.outcome(() -> x.back(1)), Check.STATE);
        x.stop();
        Check.due("braking", Check.outcome(() -> x.back(1)), Check.STATE);
        x.cut(false);
        Check.due("no power", Check.outcome(() -> x.back(1)), Check.STATE);
    }

    private static void promise11FindPick() {
        LoomDesk x = Check.desk("h1h2");
        Check.due("none broken", x.findPick(), false);
        x.speed(300);
        x.start();
        x.weft(true);
        x.turn(100);
        Check.due("does not stand", x.findPick(), false);
        x.turn(360);
        Check.due("angle", x.angle(), 240.0);
        Check.due("broken", x.state(3), 2);
        Check.due("found", x.findPick(), true);
        Check.due("angle", x.angle(), 60.0);
        Check.due("taken out", x.state(3), 0);
        Check.due("again", x.findPick(), false);
        Check.due("angle stays", x.angle(), 60.0);
        x.weft(true);
        x.start();
        x.turn(360);
        Check.due("broken", x.state(3), 2);
        x.cut(false);
        Check.due("no power", x.findPick(), false);
        x.on();
        Check.due("the break is gone with the power", x.findPick(), false);
        Check.due("in", x.state(3), 1);
        findPickAtNinety();
    }

    private static void findPickAtNinety() {
        LoomDesk x = Check.running("h1", 30);
        x.stop();
        x.weft(true);
        x.turn(60);
        Check.due("angle", x.angle(), 90.0);
        Check.due("found", x.findPick(), true);
        Check.due("angle", x.angle(), 60.0);
        Check.due("taken out", x.state(3), 0);
    }

    private static void promise13Speed() {
        LoomDesk x = Check.desk("h1");
        float[] wrong = {59.99f, 300.01f, 0, -60, Float.NaN, Float.POSITIVE_INFINITY,
            Float.NEGATIVE_INFINITY, Float.MAX_VALUE};
        for (float v : wrong) {
            Check.due("speed " + v, x.speed(v), false);
        }
        leftAt(x, 60);
        Check.due("60", x.speed(60), true);
        leftAt(x, 30);
        Check.due("300", x.speed(300), true);
        leftAt(x, 150);
        Check.due("cut to eighths", x.speed(100.24f), true);
        leftAt(x, 50.0625);
        x.start();
        Check.due("running", x.speed(100), false);
        x.stop();
        Check.due("braking", x.speed(100), false);
        x.cut(false);
        Check.due("without power", x.speed(80), true);
        x.on();
        leftAt(x, 40);
    }

    private static void leftAt(LoomDesk x, double left) {
        x.start();
        x.stop();
        Check.due("left", x.left(), left);
        Check.due("runs out", x.turn(360), left);
    }

    private static void promises16And17Sixteenths() {
        LoomDesk x = Check.desk("h1");
        Check.due("speed", x.speed(60.125f), true);
        Check.due("left of a standing one", x.left(), 0.0);
        x.start();
        Check.due("left of a running one", x.left(), 0.0);
        x.stop();
        Check.due("left", x.left(), 30.0625);
        Check.due("a part of it", x.turn(30), 30.0);
        Check.due("left", x.left(), 0.0625);
        Check.due("less than it asks for", x.turn(0.125), 0.0625);
        Check.due("angle", x.angle(), 30.0625);
        Check.due("the carrier's mark is behind it", x.back(0.125), 29.9375);
        x.start();
        Check.due("turn", x.turn(330), 330.0);
        Check.due("angle", x.angle(), 359.9375);
        Check.due("turns", x.count(2), 0);
        x.turn(0.125);
        Check.due("angle", x.angle(), 0.0625);
        Check.due("turns", x.count(2), 1);
        x.cut(false);
        Check.due("angle without power", x.angle(), 0.0625);
    }
}
