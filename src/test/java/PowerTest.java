/** Promises 10, 12, 14 and 15: weft, jump, cut, on. */
public final class PowerTest {
    public static void main(String[] args) {
        promise10Weft();
        promise12Jump();
        promise14Cut();
        promise15On();
        promise15Records();
        promise15SpoiltRecords();
        promise15RecordsInTurns();
        promise15Backwards();
        Check.end();
    }

    private static void promise10Weft() {
        LoomDesk x = Check.desk("h1");
        Check.due("told standing", x.weft(true), true);
        Check.due("told that all is well", x.weft(false), true);
        x.start();
        x.turn(100);
        Check.due("in", x.state(3), 1);
        Check.due("told running", x.weft(true), true);
        x.turn(300);
        Check.due("not yet", x.state(5), 0);
        x.turn(50);
        Check.due("broken", x.state(3), 2);
        x.weft(true);
        x.cut(false);
        Check.due("no power", x.weft(true), false);
        x.on();
        x.start();
        x.turn(360);
        Check.due("the sensor is good behind a cut", x.state(3), 1);
    }

    private static void promise12Jump() {
        LoomDesk x = new LoomDesk();
        Check.due("no pattern", x.jump(0), false);
        Check.compile(x, "h1h2h3");
        Check.due("jump", x.jump(2), true);
        Check.due("place", x.count(0), 2);
        long[] wrong = {-1, 3, 1L << 32, Long.MIN_VALUE, Long.MAX_VALUE};
        for (long p : wrong) {
            Check.due("jump " + p, x.jump(p), false);
        }
        Check.due("place stays", x.count(0), 2);
        x.start();
        Check.due("running", x.jump(0), false);
        x.turn(360);
        x.stop();
        Check.due("braking", x.jump(1), false);
        x.turn(60);
        Check.due("woven", x.cloth(0, 0), 3);
        Check.due("at 60", x.jump(1), false);
        x.back(30);
        Check.due("at 30", x.jump(1), false);
        x.back(0.125);
        Check.due("below 30", x.jump(1), true);
        Check.due("place", x.count(0), 1);
        x.cut(false);
        Check.due("no power", x.jump(2), false);
        Check.due("place outlives the cut", x.count(0), 1);
        x.on();
        Check.due("no record was written", x.count(0), 0);
    }

    private static void promise14Cut() {
        LoomDesk x = Check.running("c1h1 c2h2", 700);
        Check.due("cut", x.cut(false), true);
        Check.due("mode", x.state(0), 0);
        Check.due("shed", x.state(1), 0);
        Check.due("carrier", x.state(2), 0);
        Check.due("in", x.state(3), 0);
        Check.due("power", x.state(7), 0);
        Check.due("cloth", x.cloth(0, 0), LoomDesk.NONE);
        Check.due("beaten", x.count(1), 1);
        Check.due("turns", x.count(2), 1);
        Check.due("taken up", x.state(6), 10);
        Check.due("angle", x.angle(), 340.0);
        Check.due("place", x.count(0), 1);
        Check.due("again", x.cut(true), false);
        x.on();
        Check.due("the second cut spoilt nothing", x.count(0), 1);
        Check.due("on", x.state(7), 1);
        Check.due("type without power", x.cut(false) && x.type(Check.word("h1"), 2), true);
    }

    private static void promise15On() {
        LoomDesk x = Check.running("c1h1 c2h2", 449.875);
        Check.due("on with power", x.on(), false);
        x.cut(false);
        Check.due("on", x.on(), true);
        Check.due("on again", x.on(), false);
        Check.due("none in below 90", x.state(3), 0);
        x.start();
        x.turn(0.125);
        x.cut(false);
        x.on();
        Check.due("in at 90", x.state(3), 1);
        Check.due("stands", x.state(0), 0);
        x.start();
        x.turn(360 - 90);
        Check.due("beaten up", x.count(1), 2);
        Check.due("shed", x.cloth(0, 0), 2);
        Check.due("carrier is gone", x.cloth(0, 1), 0);
        Check.due("the cloth before is gone", x.cloth(1, 0), LoomDesk.NONE);
        LoomDesk y = Check.running("c1h1 d50c2h2", 660);
        y.cut(false);
        y.on();
        y.start();
        y.turn(60);
        Check.due("shed is gone", y.cloth(0, 0), 0);
        Check.due("carrier is gone", y.cloth(0, 1), 0);
        Check.due("the density is that of the pick", y.cloth(0, 2), 50);
    }

    private static long placeAfter(LoomDesk x, boolean spoils) {
        x.cut(spoils);
        x.on();
        return x.count(0);
    }

    private static void promise15Records() {
        Check.due("no record", placeAfter(Check.running("h1h2h3", 299), false), 0);
        Check.due("record 300", placeAfter(Check.running("h1h2h3", 300), false), 0);
        Check.due("record 0", placeAfter(Check.running("h1h2h3", 360), false), 1);
        Check.due("record 300", placeAfter(Check.running("h1h2h3", 660), false), 1);
        Check.due("record 0 of the first", placeAfter(Check.running("h1h2h3", 1080), false), 0);
        LoomDesk x = Check.desk("h1h2h3");
        x.jump(2);
        Check.due("no record of a jump", placeAfter(x, false), 0);
        LoomDesk y = Check.desk("h1h2h3");
        y.weft(true);
        y.start();
        y.turn(360);
        y.start();
        y.turn(300);
        Check.due("a missed pick is the place still", placeAfter(y, false), 0);
        Check.due("and again", placeAfter(y, false), 0);
    }

    private static void promise15SpoiltRecords() {
        LoomDesk x = Check.running("h1h2h3", 300);
        Check.due("the only one is gone", placeAfter(x, true), 0);
        LoomDesk y = Check.running("h1h2h3", 720);
        Check.due("record 300 with an angle below", placeAfter(y, true), 2);
        Check.due("it is gone already", placeAfter(y, true), 2);
        LoomDesk z = Check.running("h1h2h3", 1080);
        Check.due("behind the last the first", placeAfter(z, true), 0);
        LoomDesk w = Check.running("h1h2h3", 1020);
        Check.due("record 0", placeAfter(w, true), 2);
        LoomDesk v = Check.running("h1h2h3", 700);
        Check.due("a whole cut", placeAfter(v, false), 1);
        Check.due("then one that spoils", placeAfter(v, true), 1);
        v.jump(0);
        Check.due("and another one", placeAfter(v, true), 1);
    }

    private static void promise15RecordsInTurns() {
        LoomDesk x = Check.running("h1h2h3h4h5", 720);
        x.cut(true);
        x.on();
        x.start();
        x.turn(300);
        Check.due("300 is written over the good one", placeAfter(x, true), 0);
        LoomDesk y = Check.running("h1h2h3h4h5", 720);
        y.cut(true);
        y.on();
        y.start();
        y.turn(360);
        Check.due("place", y.count(0), 3);
        Check.due("both are new then", placeAfter(y, true), 3);
        LoomDesk z = Check.running("h1h2h3h4h5", 1000);
        z.stop();
        z.turn(60);
        z.back(70);
        Check.compile(z, "h1h2");
        Check.due("a new pattern has none", placeAfter(z, false), 0);
    }

    private static void promise15Backwards() {
        LoomDesk x = Check.stopped("h1h2h3", 310);
        x.back(20);
        Check.due("record 300 with an angle below, behind going back", placeAfter(x, false), 1);
        LoomDesk y = Check.stopped("h1h2h3", 740);
        y.back(30);
        Check.due("place", y.count(0), 1);
        Check.due("going back writes none", placeAfter(y, false), 2);
        Check.due("in", y.state(3), 1);
        LoomDesk z = Check.stopped("h1h2h3", 740);
        z.back(30);
        Check.due("record 300 with an angle above", placeAfter(z, true), 1);
    }
}
