/**
 * All promises: runs of calls, the same ones every time, and every short text of some signs,
 * on a desk and on the model beside it. No answer may differ, and none may throw what the
 * document does not name. No desk is asked more than 512 times: what it answers then is free.
 */
public final class ModelTest {
    private static final int TEXTS = 60000;
    private static final String SIGNS = "hcdrm()0128 f";
    private static final int MOST_SIGNS = 4;
    private static final int MOST_DESIGNS = 70;
    private static final int RUNS = 15000;
    // A step has nine calls at the most.
    private static final int STEPS = 50;
    private static final int ENOUGH = RUNS / 4;

    private static long seed = 20261116;

    // how often a thing came about that a run should not do without
    private static int patterns;
    private static int breaks;
    private static int recalled;
    private static int thrown;
    private static int full;

    public static void main(String[] args) {
        for (int i = 0; i < TEXTS; i++) {
            textRun();
        }
        Check.due("enough of the texts are patterns", patterns > TEXTS / 5, true);
        Check.due("enough of the texts are none", patterns < TEXTS * 4 / 5, true);
        String[] heads = {"", "r2(h1", "m(c1h1", "h12345", "r000", "d0002", "m(m(m(m(m(m(h1", "m(m(m(m(m("};
        for (String head : heads) {
            everyText(head, MOST_SIGNS - (head.isEmpty() ? 0 : 1));
        }
        for (int i = 0; i < RUNS; i++) {
            loomRun();
        }
        Check.due("enough breaks", breaks > ENOUGH, true);
        Check.due("enough places other than 0 from a record", recalled > ENOUGH, true);
        Check.due("enough exceptions", thrown > ENOUGH, true);
        Check.due("enough of the cloths are full", full > ENOUGH, true);
        Check.end();
    }

    private static int pick(int below) {
        seed = seed * 6364136223846793005L + 1442695040888963407L;
        return (int) Math.floorMod(seed >>> 33, (long) below);
    }

    private static <T> T oneOf(T[] all) {
        return all[pick(all.length)];
    }

    private static String items(int depth) {
        StringBuilder text = new StringBuilder();
        int n = 1 + pick(4);
        for (int i = 0; i < n; i++) {
            text.append(item(depth)).append(pick(3) > 0 ? " " : "");
        }
        return text.toString();
    }

    private static String item(int depth) {
        int kind = pick(depth > 6 ? 5 : 8);
        if (kind < 2) {
            return "h" + Integer.toHexString(pick(pick(2) == 0 ? 16 : 1 << 24));
        }
        if (kind == 2) {
            return "c" + pick(8);
        }
        if (kind == 3) {
            String[] all = {"20", "25", "040", "50", "80", "100", "00125", "160", "200", "250", "400"};
            return "d" + oneOf(all);
        }
        if (kind == 4) {
            return "h" + pick(10) + " h" + pick(10);
        }
        String times = pick(12) == 0 ? "9999" : Integer.toString(1 + pick(4));
        String head = kind == 5 ? "m" : "r" + times;
        return head + (pick(8) == 0 ? " (" : "(") + items(depth + 1) + ")";
    }

    private static String mutated(String text) {
        StringBuilder b = new StringBuilder(text);
        String other = "hcdrm()0123456789abcdef  ~Ax";
        int n = pick(3);
        for (int i = 0; i < n && b.length() > 0; i++) {
            int at = pick(b.length());
            char c = other.charAt(pick(other.length()));
            switch (pick(3)) {
                case 0 -> b.setCharAt(at, c);
                case 1 -> b.insert(at, c);
                default -> b.deleteCharAt(at);
            }
        }
        return b.substring(0, Math.min(160, b.length()));
    }

    private static void textRun() {
        LoomDesk x = new LoomDesk();
        Model m = new Model();
        for (int i = 0; i < 2; i++) {
            int answer = read(x, m, mutated(items(0)));
            patterns += answer == 0 && i == 0 ? 1 : 0;
        }
    }

    /** The text, and with every one of the signs behind it, and with every two .. */
    private static void everyText(String text, int more) {
        read(new LoomDesk(), new Model(), text);
        for (int i = 0; i < SIGNS.length() && more > 0; i++) {
            everyText(text + SIGNS.charAt(i), more - 1);
        }
    }

    private static int read(LoomDesk x, Model m, String text) {
        m.tape = text;
        Check.type(x, text);
        int want = m.compile();
        Check.due("compile of '" + text + "'", x.compile(), want);
        Check.due("length of '" + text + "'", x.length(), m.size.longValue());
        int all = m.picks.isEmpty() ? 0 : m.picks.size() + 2;
        for (int p = 0; p < Math.min(all, MOST_DESIGNS); p++) {
            design(x, m, (all > MOST_DESIGNS ? pick(all) : p) - 1, text);
        }
        return want;
    }

    private static void design(LoomDesk x, Model m, int p, String text) {
        boolean none = p < 0 || p >= m.picks.size();
        String call = "design " + p + " of '" + text + "' ";
        Check.due(call + 0, x.design(p, 0), none ? -1 : m.picks.get(p).lift());
        Check.due(call + 1, x.design(p, 1), none ? -1 : m.picks.get(p).carrier());
        Check.due(call + 2, x.design(p, 2), none ? -1 : m.picks.get(p).density());
    }

    private static void loomRun() {
        LoomDesk x = new LoomDesk();
        Model m = new Model();
        compile(x, m);
        // Without runs that weave for the most part hardly a cloth would come to its bound.
        int weaves = pick(4) == 0 ? 4 : 0;
        for (int i = 0; i < STEPS; i++) {
            if (pick(5) < weaves) {
                start(x, m);
                turn(x, m, 3600 - pick(2000) / 8.0);
            } else {
                call(x, m);
            }
            look(x, m);
        }
        for (int what = 0; what < 9; what++) {
            state(x, m, what);
        }
        for (int i = 60; i < 65; i++) {
            cloth(x, m, i, pick(3));
        }
    }

    private static void call(LoomDesk x, Model m) {
        switch (pick(16)) {
            case 0 -> compile(x, m);
            case 1, 2, 3 -> start(x, m);
            case 4 -> Check.due("stop", x.stop(), m.brake());
            case 5, 6, 7, 8 -> turn(x, m, degrees(3600));
            case 9 -> back(x, m);
            case 10 -> weft(x, m);
            case 11 -> findPick(x, m);
            case 12 -> jump(x, m);
            case 13 -> speed(x, m);
            case 14 -> power(x, m);
            default -> numbers(x, m);
        }
    }

    private static void compile(LoomDesk x, Model m) {
        // Two changed characters can not make one of these too long for the model.
        String text = pick(3) == 0 ? "" : mutated(oneOf(new String[] {
            "h1h2h3", "c1h1 c2h2 d50 h3", "r3(h1 c1 h2 d80)", "m(h7 c7 d160 h8)", "h5",
            "d20 r2(m(h1 c2 h2 d400)c3)h4", "r1(r1(h1 c1 d125 h2))"}));
        if (m.tape.length() + text.length() > 160) {
            return;
        }
        Check.due("type", Check.type(x, text), true);
        m.tape += text;
        Check.due("compile of '" + m.tape + "'", x.compile(), m.compile());
    }

    private static void start(LoomDesk x, Model m) {
        boolean can = m.power && m.mode == 0 && !m.picks.isEmpty();
        Check.due("start", x.start(), can);
        m.mode = can ? 1 : m.mode;
    }

    private static double degrees(int most) {
        switch (pick(6)) {
            case 0:
                Double[] odd = {0.0, -0.0, -0.125, Double.NaN, most + 0.001, (double) most,
                    Double.POSITIVE_INFINITY, Double.NEGATIVE_INFINITY, -1e-9, 1e18};
                return oneOf(odd);
            case 1:
                return 30.0 * pick(24);
            case 2:
                return pick(most);
            case 3:
                return pick(1000) / 16.0;
            default:
                return pick(4000) / 7.0;
        }
    }

    private static void turn(LoomDesk x, Model m, double d) {
        String got = Check.outcome(() -> x.turn(d));
        if (!m.power || m.mode == 0) {
            thrown++;
            Check.due("turn " + d, got, Check.STATE);
            return;
        }
        if (!(d >= 0 && d <= 3600)) {
            thrown++;
            Check.due("turn " + d, got, Check.ARGUMENT);
            return;
        }
        int went = 0;
        int orders = m.orders;
        for (int rest = (int) Math.floor(d * 8) * 2; rest > 0 && m.mode != 0; rest--) {
            m.sixteenthForwards();
            went++;
        }
        breaks += m.orders - orders;
        Check.due("turn " + d, got, Double.toString(went / 16.0));
    }

    private static void back(LoomDesk x, Model m) {
        double d = degrees(1080);
        String got = Check.outcome(() -> x.back(d));
        if (!m.power || m.mode != 0 || m.picks.isEmpty()) {
            thrown++;
            Check.due("back " + d, got, Check.STATE);
            return;
        }
        if (!(d >= 0 && d <= 1080)) {
            thrown++;
            Check.due("back " + d, got, Check.ARGUMENT);
            return;
        }
        for (int rest = (int) Math.floor(d * 8) * 2; rest > 0; rest--) {
            m.sixteenthBackwards();
        }
        Check.due("back " + d, got, Double.toString(m.angle / 16.0));
    }

    private static void weft(LoomDesk x, Model m) {
        boolean told = pick(3) > 0;
        Check.due("weft", x.weft(told), m.power);
        m.sensor = m.power ? told : m.sensor;
    }

    private static void findPick(LoomDesk x, Model m) {
        boolean can = m.power && m.mode == 0 && m.broken;
        Check.due("findPick", x.findPick(), can);
        while (can && m.angle > 60 * 16) {
            m.sixteenthBackwards();
        }
    }

    private static void jump(LoomDesk x, Model m) {
        int p = pick(12) - 1;
        boolean can = m.power && m.mode == 0 && m.angle < 30 * 16 && p >= 0 && p < m.picks.size();
        Check.due("jump " + p, x.jump(p), can);
        m.place = can ? p : m.place;
    }

    private static void speed(LoomDesk x, Model m) {
        Float[] odd = {60f, 300f, 59.99f, 300.01f, Float.NaN, Float.POSITIVE_INFINITY, -120f, 60.125f};
        float v = pick(3) == 0 ? oneOf(odd) : 60 + pick(2400) / 10.0f;
        boolean can = m.mode == 0 && v >= 60 && v <= 300;
        Check.due("speed " + v, x.speed(v), can);
        m.speed = can ? (int) Math.floor(v * 8.0) : m.speed;
    }

    private static void power(LoomDesk x, Model m) {
        boolean spoils = pick(2) == 0;
        boolean can = m.power;
        Check.due("cut", x.cut(spoils), can);
        if (can) {
            m.cut(spoils);
        }
        look(x, m);
        if (pick(6) > 0) {
            Check.due("on", x.on(), !m.power);
            m.on();
            recalled += m.place > 0 ? 1 : 0;
        }
    }

    private static void numbers(LoomDesk x, Model m) {
        double ratio = (pick(80000) - 40000) / 9.0;
        boolean inside = ratio >= -4096 && ratio <= 4096;
        double eighths = (long) (ratio * 8) / 8.0;
        Check.due("roll " + ratio, x.roll(ratio), inside ? m.takenUp() * eighths % 360 : 0);
        float tension = (pick(2000000) - 1000000) / (float) (1 + pick(300)) * (pick(9) == 0 ? 1200 : 1);
        boolean held = tension >= -1000000000f && tension <= 1000000000f;
        Check.due("letOff " + tension, x.letOff(tension), held ? (int) (tension % 12.5 * 8) : 0);
        Check.due("on", x.on(), !m.power);
        if (!m.power) {
            m.on();
        }
    }

    /** Three calls, others each time. */
    private static void look(LoomDesk x, Model m) {
        full += m.inMind == 64 ? 1 : 0;
        state(x, m, pick(9));
        long[] counts = {m.place, m.cloth.size(), m.turns, -1};
        int which = pick(counts.length);
        Check.due("count " + which, x.count(which), counts[which]);
        switch (pick(4)) {
            case 0 -> Check.due("angle", x.angle(), m.angle / 16.0);
            case 1 -> Check.due("left", x.left(), m.mode == 2 ? m.left / 16.0 : 0);
            case 2 -> Check.due("length", x.length(), m.picks.size());
            default -> cloth(x, m, pick(70) - 2, pick(4));
        }
    }

    private static void state(LoomDesk x, Model m, int what) {
        int[] states = {m.mode, m.shed, m.carrier, m.broken ? 2 : m.in ? 1 : 0, m.missed, m.orders,
            (int) Math.floor(m.takenUp()), m.power ? 1 : 0, -1};
        Check.due("state " + what, x.state(what), states[what]);
    }

    private static void cloth(LoomDesk x, Model m, int i, int what) {
        boolean known = i >= 0 && i < m.inMind;
        Model.Pick p = known ? m.cloth.get(m.cloth.size() - 1 - i) : new Model.Pick(-1, -1, -1);
        int[] told = {p.lift(), p.carrier(), p.density(), -1};
        Check.due("cloth " + i + " " + what, x.cloth(i, what), told[what]);
    }
}
