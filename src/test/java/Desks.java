/**
 * Desks in the midst of their work, with something in every place that a refused call could
 * spoil: a tape, a pattern, a PLACE, a cloth, two RECORDS, a SPEED of 100 and, where there is
 * power, a break that the sensor was told.
 */
final class Desks {
    static final String TEXT = "c1h1 c2d50h2 c3h3 d160h4 h5";

    private Desks() {
    }

    private static LoomDesk turned(double degrees) {
        LoomDesk desk = Check.desk(TEXT);
        desk.speed(100);
        desk.start();
        Check.due("turn", desk.turn(degrees), degrees);
        return desk;
    }

    private static LoomDesk loaded(LoomDesk desk) {
        desk.type(Check.word("h7 "), 3);
        desk.weft(true);
        return desk;
    }

    /** Standing behind so many degrees in all. */
    static LoomDesk standing(double degrees) {
        LoomDesk desk = turned(degrees - 50);
        desk.stop();
        Check.due("runs out", desk.turn(360), 50.0);
        return loaded(desk);
    }

    static LoomDesk standing() {
        return standing(740);
    }

    static LoomDesk running() {
        return loaded(turned(740));
    }

    static LoomDesk braking() {
        LoomDesk desk = loaded(turned(740));
        desk.stop();
        Check.due("a part of what is left", desk.turn(10), 10.0);
        return desk;
    }

    /** Standing at 140 with a BROKEN pick. */
    static LoomDesk broken() {
        LoomDesk desk = loaded(turned(740));
        Check.due("to the break and behind it", desk.turn(360), 120.0);
        desk.weft(true);
        return desk;
    }

    /** Without power, at 280. */
    static LoomDesk dark() {
        LoomDesk desk = turned(1000);
        desk.type(Check.word("h7 "), 3);
        desk.cut(false);
        return desk;
    }

    /** Without a pattern. */
    static LoomDesk bare() {
        return loaded(new LoomDesk());
    }
}
