/** Promises 6 to 13: when a call is refused, and what then does not change. */
public final class CallBoundsTest {
    public static void main(String[] args) {
        start();
        stop();
        turn();
        back();
        weft();
        findPickRefused();
        findPickFromAngles();
        jumpRefused();
        jumpToTheBounds();
        jumpBelowThirty();
        speed();
        Check.end();
    }

    private static LoomDesk bareAndDark() {
        LoomDesk x = Desks.bare();
        x.cut(false);
        return x;
    }

    private static void start() {
        Check.sentence("The loom starts: true; false if it is not standing, has no pattern, or there is no power.");
        Twin.refused("running", Desks::running, LoomDesk::start, false);
        Twin.refused("braking", Desks::braking, LoomDesk::start, false);
        Twin.refused("no pattern", Desks::bare, LoomDesk::start, false);
        Twin.refused("no power", Desks::dark, LoomDesk::start, false);
        Twin.refused("no pattern and no power", CallBoundsTest::bareAndDark, LoomDesk::start, false);
        LoomDesk x = Desks.standing();
        Check.due("standing", x.start(), true);
        Check.due("mode", x.state(0), 1);
        LoomDesk y = Desks.broken();
        Check.due("with a broken pick", y.start(), true);
        Check.due("still broken", y.state(3), 2);
    }

    private static void stop() {
        Check.sentence("The brake is ordered: true; false if it is not running.");
        Twin.refused("standing", Desks::standing, LoomDesk::stop, false);
        Twin.refused("braking", Desks::braking, LoomDesk::stop, false);
        Twin.refused("no pattern", Desks::bare, LoomDesk::stop, false);
        Twin.refused("no power", Desks::dark, LoomDesk::stop, false);
        LoomDesk x = Desks.running();
        Check.due("running", x.stop(), true);
        Check.due("orders", x.state(5), 1);
        Check.due("left", x.left(), 50.0);
    }

    private static void turn() {
        Check.sentence("IllegalStateException: it stands, or there is no power");
        for (double d : new double[] {0, 10, 3600, -1, 3601, Double.NaN}) {
            Twin.refused("standing " + d, Desks::standing, x -> Check.outcome(() -> x.turn(d)), Check.STATE);
            Twin.refused("no pattern " + d, Desks::bare, x -> Check.outcome(() -> x.turn(d)), Check.STATE);
            Twin.refused("no power " + d, Desks::dark, x -> Check.outcome(() -> x.turn(d)), Check.STATE);
        }
        LoomDesk x = Desks.running();
        x.cut(false);
        x.on();
        Check.due("it stands with power again", Check.outcome(() -> x.turn(0)), Check.STATE);
    }

    private static void back() {
        Check.sentence("IllegalStateException: it does not stand, has no pattern, or there is no power");
        for (double d : new double[] {0, 10, 1080, -1, 1081, Double.NaN}) {
            Twin.refused("running " + d, Desks::running, x -> Check.outcome(() -> x.back(d)), Check.STATE);
            Twin.refused("braking " + d, Desks::braking, x -> Check.outcome(() -> x.back(d)), Check.STATE);
            Twin.refused("no pattern " + d, Desks::bare, x -> Check.outcome(() -> x.back(d)), Check.STATE);
            Twin.refused("no power " + d, Desks::dark, x -> Check.outcome(() -> x.back(d)), Check.STATE);
        }
        Check.due("standing", Desks.standing().back(5), 15.0);
        Check.due("with a broken pick", Desks.broken().back(5), 135.0);
    }

    private static void weft() {
        Check.sentence("The weft sensor is told a break for the next insertion, or that all is well: true;"
            + " false without power.");
        for (boolean broken : new boolean[] {true, false}) {
            Twin.refused("no power", Desks::dark, x -> x.weft(broken), false);
            Check.due("standing", Desks.standing().weft(broken), true);
            Check.due("running", Desks.running().weft(broken), true);
            Check.due("braking", Desks.braking().weft(broken), true);
            Check.due("no pattern", Desks.bare().weft(broken), true);
            LoomDesk x = Desks.running();
            x.weft(broken);
            x.turn(70);
            Check.due("the next insertion", x.state(3), broken ? 2 : 1);
        }
    }

    private static LoomDesk runningWithBroken() {
        LoomDesk x = Desks.broken();
        x.start();
        return x;
    }

    private static LoomDesk brakingWithBroken() {
        LoomDesk x = Desks.running();
        Check.due("to 90", x.turn(80), 80.0);
        Check.due("broken", x.state(3), 2);
        Check.due("braking", x.state(0), 2);
        return x;
    }

    private static LoomDesk cutWithBroken() {
        LoomDesk x = Desks.broken();
        x.cut(false);
        return x;
    }

    private static void findPickRefused() {
        Check.sentence("false, changing nothing, if it does not stand, none is BROKEN, or there is no power.");
        Twin.refused("running", CallBoundsTest::runningWithBroken, LoomDesk::findPick, false);
        Twin.refused("braking", CallBoundsTest::brakingWithBroken, LoomDesk::findPick, false);
        Twin.refused("none in", Desks::standing, LoomDesk::findPick, false);
        Twin.refused("one in", () -> Desks.standing(820), LoomDesk::findPick, false);
        Twin.refused("no pattern", Desks::bare, LoomDesk::findPick, false);
        Twin.refused("no power", CallBoundsTest::cutWithBroken, LoomDesk::findPick, false);
    }

    private static void findPickFromAngles() {
        Check.sentence("with a BROKEN pick the loom turns BACKWARDS to 60 degrees (if it is above): true");
        for (double angle : new double[] {90, 90.125, 140, 300, 359.875}) {
            LoomDesk x = brokenAt(angle);
            Check.due("angle", x.angle(), angle);
            Check.due("broken", x.state(3), 2);
            Check.due("found", x.findPick(), true);
            Check.due("at 60", x.angle(), 60.0);
            Check.due("taken out", x.state(3), 0);
            Check.due("none missed", x.state(4), 0);
            Check.due("place", x.count(0), 1);
            Check.due("beaten", x.count(1), 1);
            Check.due("turns", x.count(2), 1);
            Check.due("stands", x.state(0), 0);
            Check.due("again", x.findPick(), false);
        }
    }

    /** Standing with a BROKEN pick at an angle from 90 on. */
    private static LoomDesk brokenAt(double angle) {
        LoomDesk x = Check.desk("h1h2h3");
        x.speed(60);
        x.start();
        x.turn(420);
        x.stop();
        x.weft(true);
        x.turn(30);
        // The brake takes it to 120 at least; below that it is turned back by hand.
        double ahead = Math.max(angle, 120);
        x.start();
        x.turn(ahead - 120);
        x.stop();
        x.turn(30);
        x.back(ahead - angle);
        return x;
    }

    private static void jumpRefused() {
        Check.sentence("if it stands with an ANGLE below 30, there is such a pick, and power: true;"
            + " else false, changing nothing");
        Twin.refused("running", Desks::running, x -> x.jump(0), false);
        Twin.refused("braking", Desks::braking, x -> x.jump(0), false);
        Twin.refused("no pattern", Desks::bare, x -> x.jump(0), false);
        Twin.refused("no power", CallBoundsTest::darkBelowThirty, x -> x.jump(0), false);
        for (long p : new long[] {-1, 5, 6, 1L << 32, (1L << 32) + 1, -(1L << 32), Long.MIN_VALUE,
            Long.MIN_VALUE + 1, Long.MAX_VALUE}) {
            Twin.refused("jump " + p, Desks::standing, x -> x.jump(p), false);
        }
        for (double at : new double[] {750, 750.125, 780, 820, 1020, 1079.875}) {
            Twin.refused("at " + at, () -> Desks.standing(at), x -> x.jump(0), false);
        }
    }

    private static LoomDesk darkBelowThirty() {
        LoomDesk x = Desks.standing();
        x.cut(false);
        return x;
    }

    private static void jumpToTheBounds() {
        Check.sentence("PLACE becomes p");
        for (long p : new long[] {0, 1, 4}) {
            LoomDesk x = Desks.standing();
            Check.due("jump " + p, x.jump(p), true);
            Check.due("place", x.count(0), p);
            x.cut(false);
            x.on();
            Check.sentence("(No RECORD is written.)");
            Check.due("place from the record", x.count(0), 2);
            Check.sentence("PLACE becomes p");
        }
        LoomDesk y = Check.desk("r2000(r1000(r1000(h1)))");
        Check.due("the last of the most", y.jump(1999999999L), true);
        Check.due("place", y.count(0), 1999999999L);
        Check.due("behind it", y.jump(2000000000L), false);
        Check.due("place", y.count(0), 1999999999L);
    }

    private static void jumpBelowThirty() {
        Check.sentence("if it stands with an ANGLE below 30");
        for (double at : new double[] {720, 720.125, 749.875}) {
            LoomDesk x = Desks.standing(at);
            Check.due("at " + at, x.jump(4), true);
            Check.due("place", x.count(0), 4);
        }
        LoomDesk y = Check.desk("h1h2");
        y.speed(60.125f);
        y.start();
        y.stop();
        y.turn(360);
        Check.due("at 30.0625", y.jump(1), false);
        Check.due("back", y.back(0.125), 29.9375);
        Check.due("at 29.9375", y.jump(1), true);
    }

    private static void speed() {
        Check.sentence("SPEED becomes v, if the shaft stands (with power or without): true");
        for (float v : new float[] {60, 200, 300}) {
            Twin.refused("running", Desks::running, x -> x.speed(v), false);
            Twin.refused("braking", Desks::braking, x -> x.speed(v), false);
            LoomDesk x = Desks.standing();
            Check.due("standing", x.speed(v), true);
            x.start();
            x.stop();
            Check.due("left", x.left(), v / 2);
            LoomDesk y = Desks.dark();
            Check.due("no power", y.speed(v), true);
            y.on();
            y.start();
            y.stop();
            Check.due("left", y.left(), v / 2);
            LoomDesk z = Desks.running();
            z.cut(false);
            Check.due("a cut while it ran", z.speed(v), true);
            Check.due("no pattern", Desks.bare().speed(v), true);
        }
    }
}
