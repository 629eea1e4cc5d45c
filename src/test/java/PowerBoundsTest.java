/** The RECORDS, what is left of them when the power is cut and comes on; promises 14 and 15. */
public final class PowerBoundsTest {
    private static final String FIVE = "h1h2h3h4h5";

    public static void main(String[] args) {
        whatIsGone();
        whatIsNotGone();
        cutInEveryMode();
        theSensorIsGone();
        cutWithoutPower();
        onWithPower();
        withoutARecord();
        theOneWrittenLast();
        threeHundredWithAnAngleBelow();
        threeHundredOfTheLast();
        spoils();
        notGoneTwice();
        inTurnsWhateverIsInThem();
        threeHundredAgain();
        zeroAgain();
        aRecordOfEachTurn();
        inFromNinetyOn();
        Check.end();
    }

    private static void whatIsGone() {
        Check.sentence("The power is cut: MODE 0; what is IN or BROKEN, the sensor, the shed, the carrier"
            + " and what picks the loom has in mind are gone");
        LoomDesk x = Check.running("c1h1 c2h2", 820);
        int[] states = {1, 2, 1, 1};
        int[] after = {0, 0, 0, 0};
        for (int what = 0; what < states.length; what++) {
            Check.due("state " + what, x.state(what), states[what]);
        }
        Check.due("cut", x.cut(false), true);
        for (int what = 0; what < after.length; what++) {
            Check.due("state " + what + " behind a cut", x.state(what), after[what]);
        }
        for (int i = 0; i < 3; i++) {
            Check.due("cloth " + i, x.cloth(i, 0), LoomDesk.NONE);
        }
        x.on();
        Check.due("shed", x.state(1), 0);
        Check.due("carrier", x.state(2), 0);
        Check.due("cloth", x.cloth(0, 0), LoomDesk.NONE);
        LoomDesk y = Desks.broken();
        y.cut(false);
        Check.due("broken", y.state(3), 0);
        y.on();
        Check.due("in, not broken", y.state(3), 1);
        y.start();
        y.turn(220);
        Check.due("none missed", y.state(4), 0);
        Check.due("beaten", y.count(1), 3);
        Check.due("the newest is in mind", y.cloth(0, 0), 3);
        Check.due("it alone", y.cloth(1, 0), LoomDesk.NONE);
    }

    private static void whatIsNotGone() {
        Check.sentence("(not how many there were, nor what is TAKEN UP)");
        LoomDesk x = Check.running("d160h1", 1080);
        x.turn(20);
        x.cut(true);
        for (int i = 0; i < 2; i++) {
            Check.due("beaten", x.count(1), 3);
            Check.due("taken up", x.roll(1), 18.75);
            Check.due("turns", x.count(2), 3);
            Check.due("angle", x.angle(), 20.0);
            Check.due("length", x.length(), 1);
            x.on();
        }
        x.back(1080);
        Check.due("none in mind: beaten", x.count(1), 3);
        Check.due("none in mind: taken up", x.roll(1), 18.75);
        Check.due("turns", x.count(2), 0);
        Check.due("none in", x.state(3), 0);
    }

    private static void cutInEveryMode() {
        Check.sentence("The power is cut, or, if there is none, nothing changes: true; false in that case.");
        LoomDesk[] desks = {Desks.standing(), Desks.running(), Desks.braking(), Desks.broken(), Desks.bare()};
        for (LoomDesk x : desks) {
            int orders = x.state(5);
            Check.due("cut", x.cut(false), true);
            Check.due("power", x.state(7), 0);
            Check.due("mode", x.state(0), 0);
            Check.due("left", x.left(), 0.0);
            Check.due("orders", x.state(5), orders);
            Check.due("on", x.on(), true);
            Check.due("power", x.state(7), 1);
            Check.due("mode", x.state(0), 0);
        }
    }

    private static void theSensorIsGone() {
        Check.sentence("the sensor, the shed, the carrier and what picks the loom has in mind are gone");
        LoomDesk x = Desks.standing();
        x.cut(false);
        x.on();
        x.start();
        Check.due("no break", x.turn(360), 360.0);
        Check.due("orders", x.state(5), 1);
    }

    private static void cutWithoutPower() {
        Check.sentence("if there is none, nothing changes: true; false in that case");
        Twin.refused("cut", Desks::dark, x -> x.cut(false), false);
        Twin.refused("cut that would spoil", Desks::dark, x -> x.cut(true), false);
        Twin.refused("cut twice", Desks::dark, x -> x.cut(true) || x.cut(true), false);
    }

    private static void onWithPower() {
        Check.sentence("The power comes on: true; false if it is on.");
        Twin.refused("standing", Desks::standing, LoomDesk::on, false);
        Twin.refused("running", Desks::running, LoomDesk::on, false);
        Twin.refused("braking", Desks::braking, LoomDesk::on, false);
        Twin.refused("broken", Desks::broken, LoomDesk::on, false);
        Twin.refused("no pattern", Desks::bare, LoomDesk::on, false);
        LoomDesk x = Desks.standing();
        x.jump(4);
        Check.due("on", x.on(), false);
        Check.due("place stays", x.count(0), 4);
        Check.due("cut", x.cut(false), true);
        Check.due("on", x.on(), true);
        Check.due("on again", x.on(), false);
    }

    private static long placeAfter(LoomDesk x, boolean spoils) {
        Check.due("cut", x.cut(spoils), true);
        Check.due("on", x.on(), true);
        return x.count(0);
    }

    private static void withoutARecord() {
        Check.sentence("Without a RECORD PLACE is 0.");
        for (boolean spoils : new boolean[] {false, true}) {
            Check.due("new", placeAfter(new LoomDesk(), spoils), 0);
            LoomDesk x = Check.desk(FIVE);
            x.jump(3);
            Check.due("ahead of 300", placeAfter(x, spoils), 0);
            LoomDesk y = Check.desk(FIVE);
            y.jump(3);
            y.start();
            y.turn(299.875);
            Check.due("ahead of 300", placeAfter(y, spoils), 0);
            LoomDesk z = Check.desk(FIVE);
            z.jump(3);
            z.start();
            z.turn(300);
            Check.due("at 300", placeAfter(z, spoils), spoils ? 0 : 3);
        }
    }

    private static void theOneWrittenLast() {
        Check.sentence("of the RECORDS that are there the one written last counts: PLACE is its place");
        double[] turned = {300, 359.875, 360, 659.875, 660, 719.875, 720, 1019.875, 1020, 1800};
        long[] place = {0, 0, 1, 1, 1, 1, 2, 2, 2, 0};
        for (int i = 0; i < turned.length; i++) {
            Check.due("behind " + turned[i], placeAfter(Check.running(FIVE, turned[i]), false), place[i]);
        }
    }

    private static void threeHundredWithAnAngleBelow() {
        Check.sentence("but if it is one of 300, and the ANGLE is below 300, PLACE is the one behind that");
        double[] back = {0, 10, 10.125, 100, 310, 310.125};
        long[] place = {1, 1, 2, 2, 2, 1};
        for (int i = 0; i < back.length; i++) {
            LoomDesk x = toAndFro(670, 1);
            x.back(back[i]);
            Check.due("behind back " + back[i], placeAfter(x, false), place[i]);
        }
        Check.sentence("of the RECORDS that are there the one written last counts: PLACE is its place");
        LoomDesk y = Check.stopped(FIVE, 740);
        y.back(40);
        Check.due("one of 0 with any angle", placeAfter(y, false), 2);
        y.back(60);
        Check.due("one of 0 with any angle", placeAfter(y, false), 2);
    }

    private static void threeHundredOfTheLast() {
        Check.sentence("PLACE is the one behind that");
        Check.due("the first behind the last", placeAfter(Check.running(FIVE, 1820), true), 0);
        Check.due("the last behind the last but one", placeAfter(Check.running(FIVE, 1460), true), 4);
        Check.due("of one", placeAfter(Check.running("h1", 380), true), 0);
        LoomDesk most = Check.desk("r2000(r1000(r1000(h1)))");
        most.jump(1999999999L);
        most.start();
        most.turn(360);
        Check.due("of the most", placeAfter(most, true), 0);
        LoomDesk x = Check.desk("r2000(r1000(r1000(h1)))");
        x.jump(1999999998L);
        x.start();
        x.turn(360);
        Check.due("of the most but one", placeAfter(x, true), 1999999999L);
    }

    private static void spoils() {
        Check.sentence("if it spoils, the RECORD written last is gone, too");
        Check.due("300 is gone, and there is no other", placeAfter(Check.running(FIVE, 310), true), 0);
        Check.due("300 is gone, 0 counts", placeAfter(Check.running(FIVE, 1030), true), 2);
        Check.due("0 is gone, 300 counts", placeAfter(Check.running(FIVE, 730), true), 2);
        LoomDesk x = Desks.standing();
        x.back(60);
        Check.due("0 is gone, 300 counts, at 320", placeAfter(x, true), 1);
        LoomDesk y = Check.running(FIVE, 730);
        y.cut(false);
        y.on();
        Check.due("a cut that does not spoil leaves both", placeAfter(y, true), 2);
        y.jump(0);
        Check.due("one is left", placeAfter(y, false), 2);
    }

    private static void notGoneTwice() {
        Check.sentence("(if it is not gone already)");
        LoomDesk x = Check.running(FIVE, 730);
        for (int i = 0; i < 4; i++) {
            Check.due("the other one stays", placeAfter(x, true), 2);
            x.jump(0);
        }
        Check.due("the other one stays", placeAfter(x, false), 2);
        LoomDesk y = Check.running(FIVE, 310);
        for (int i = 0; i < 3; i++) {
            Check.due("none is there", placeAfter(y, true), 0);
        }
    }

    private static void inTurnsWhateverIsInThem() {
        Check.sentence("RECORDS: two places, which are written in turns, whatever is in them.");
        LoomDesk x = Check.running(FIVE, 730);
        Check.due("0 is gone", placeAfter(x, true), 2);
        x.start();
        x.turn(300);
        Check.due("300 is written over the one that was there", placeAfter(x, true), 0);
        LoomDesk y = Check.running(FIVE, 730);
        Check.due("0 is gone", placeAfter(y, true), 2);
        y.start();
        y.turn(300);
        Check.due("300 counts", placeAfter(y, false), 2);
        y.start();
        y.turn(60);
        Check.due("and 0 behind it", placeAfter(y, false), 3);
        Check.due("and 300 again without that", placeAfter(y, true), 3);
        LoomDesk z = Check.running(FIVE, 310);
        Check.due("the only one is gone", placeAfter(z, true), 0);
        z.start();
        z.turn(60);
        Check.due("the next one", placeAfter(z, false), 1);
        Check.due("is alone", placeAfter(z, true), 0);
    }

    /** Standing behind so many degrees, of which it went the last 40 so many times. */
    private static LoomDesk toAndFro(double degrees, int times) {
        LoomDesk x = Check.desk(FIVE);
        x.speed(60);
        x.start();
        x.turn(degrees - 30);
        x.stop();
        x.turn(30);
        for (int i = 1; i < times; i++) {
            x.back(40);
            x.start();
            x.turn(10);
            x.stop();
            x.turn(30);
        }
        Check.due("angle", x.angle(), degrees % 360);
        return x;
    }

    private static void threeHundredAgain() {
        Check.sentence("RECORDS: two places, which are written in turns, whatever is in them.");
        for (int times = 1; times <= 4; times++) {
            LoomDesk above = toAndFro(670, times);
            Check.due("above 300", placeAfter(above, false), 1);
            Check.due("above 300, spoilt", placeAfter(above, true), 1);
            LoomDesk below = toAndFro(670, times);
            below.back(10.125);
            Check.due("below 300", placeAfter(below, false), 2);
            Check.due("below 300, spoilt: 0 of pick 1, or 300 of it", placeAfter(below, true), times == 1 ? 1 : 2);
        }
    }

    private static void zeroAgain() {
        Check.sentence("RECORDS: two places, which are written in turns, whatever is in them.");
        for (int times = 1; times <= 4; times++) {
            LoomDesk x = toAndFro(740, times);
            x.back(40);
            Check.due("angle", x.angle(), 340.0);
            Check.due("0 of pick 2", placeAfter(x, false), 2);
            Check.due("spoilt: 300 of pick 1, or 0 of pick 2", placeAfter(x, true), times == 1 ? 1 : 2);
        }
    }

    private static void aRecordOfEachTurn() {
        Check.sentence("Then none is IN or BROKEN; the RECORD 0 of PLACE is written");
        LoomDesk x = Check.running(FIVE, 3600);
        Check.due("place", x.count(0), 0);
        x.turn(359.875);
        Check.due("300 of the turn", placeAfter(x, false), 0);
        Check.due("0 of the turn before", placeAfter(x, true), 0);
        x.start();
        x.turn(360.125);
        Check.due("place", x.count(0), 2);
        Check.due("0 of the turn", placeAfter(x, false), 2);
    }

    private static void inFromNinetyOn() {
        Check.sentence("With an ANGLE of at least 90 a pick is IN.");
        double[] turned = {0, 30, 89.875, 90, 90.125, 300, 359.875, 360, 449.875, 450};
        int[] in = {0, 0, 0, 1, 1, 1, 1, 0, 0, 1};
        for (int i = 0; i < turned.length; i++) {
            LoomDesk x = Check.running(FIVE, turned[i]);
            placeAfter(x, false);
            Check.due("at " + turned[i], x.state(3), in[i]);
        }
        Check.due("new", placeAfter(new LoomDesk(), false), 0);
        LoomDesk y = Check.desk(FIVE);
        y.back(10);
        Check.due("none in at 350", y.state(3), 0);
        placeAfter(y, false);
        Check.due("in at 350 behind a cut", y.state(3), 1);
        LoomDesk z = Check.desk(FIVE);
        z.speed(60.125f);
        z.start();
        z.turn(60);
        z.stop();
        z.turn(360);
        z.back(0.125);
        Check.due("angle", z.angle(), 89.9375);
        placeAfter(z, false);
        Check.due("none in a sixteenth below 90", z.state(3), 0);
    }
}
