import java.util.LinkedHashMap;
import java.util.Map;
import java.util.function.Function;
import java.util.function.Supplier;

/**
 * That a refused call changes nothing: of two desks with the same calls behind them one gets
 * the refused call as well, and then both are asked the same. What no call tells (the tape,
 * the sensor, the SPEED, the RECORDS) is seen by what comes of it.
 */
final class Twin {
    private static final Map<String, Function<LoomDesk, String>> PROBES = new LinkedHashMap<>();

    static {
        PROBES.put("what is told", Twin::look);
        PROBES.put("the tape", Twin::tape);
        PROBES.put("the room of the tape", Twin::room);
        PROBES.put("the sensor", Twin::sensor);
        PROBES.put("the speed", Twin::speed);
        PROBES.put("the records", x -> records(x, false) + records(x, true));
        PROBES.put("the spoilt records", x -> records(x, true) + records(x, true));
    }

    private Twin() {
    }

    /** The answer of a refused call, and that nothing has changed behind it. */
    static void refused(String call, Supplier<LoomDesk> make, Function<LoomDesk, Object> ask, Object answer) {
        Check.due(call, String.valueOf(ask.apply(make.get())), String.valueOf(answer));
        unchanged(call, make, ask);
    }

    static void unchanged(String call, Supplier<LoomDesk> make, Function<LoomDesk, Object> ask) {
        PROBES.forEach((name, probe) -> {
            LoomDesk asked = make.get();
            ask.apply(asked);
            Check.due(name + " behind " + call, probe.apply(asked), probe.apply(make.get()));
        });
    }

    /** All that a desk tells of itself, of a few picks of the pattern and of the cloth. */
    static String look(LoomDesk x) {
        StringBuilder seen = new StringBuilder();
        for (int what = 0; what < 8; what++) {
            seen.append(x.state(what)).append(' ');
        }
        for (int what = 0; what < 3; what++) {
            seen.append(x.count(what)).append(' ');
        }
        seen.append(x.angle()).append(' ').append(x.left()).append(' ').append(x.roll(1));
        seen.append(" length ").append(x.length());
        for (long p : new long[] {0, 1, 2, 3, 4, 5}) {
            seen.append(" p").append(x.design(p, 0)).append('.').append(x.design(p, 1));
            seen.append('.').append(x.design(p, 2));
        }
        for (int i : new int[] {0, 1, 2, 63}) {
            seen.append(" i").append(x.cloth(i, 0)).append('.').append(x.cloth(i, 1));
            seen.append('.').append(x.cloth(i, 2));
        }
        return seen.append('\n').toString();
    }

    private static String go(LoomDesk x, double d) {
        return Check.outcome(() -> x.turn(d)) + " ";
    }

    private static String tape(LoomDesk x) {
        x.on();
        x.stop();
        return go(x, 360) + x.compile() + " " + look(x);
    }

    private static String room(LoomDesk x) {
        int room = 0;
        while (room < 200 && x.type(' ', 1)) {
            room++;
        }
        return Integer.toString(room);
    }

    private static String sensor(LoomDesk x) {
        x.on();
        x.start();
        String first = go(x, 360) + look(x);
        x.start();
        return first + go(x, 360) + look(x);
    }

    private static String speed(LoomDesk x) {
        x.on();
        String first = x.left() + " " + x.stop() + " " + x.left() + " " + go(x, 360);
        return first + x.start() + " " + x.stop() + " " + x.left();
    }

    private static String records(LoomDesk x, boolean spoils) {
        x.cut(spoils);
        return look(x) + x.on() + " " + look(x);
    }
}
