import java.util.function.DoubleSupplier;

/** What the tests of the project have in common. */
final class Check {
    static final String STATE = "IllegalStateException";
    static final String ARGUMENT = "IllegalArgumentException";

    private static int asked = 0;
    private static int wrong = 0;
    private static String sentence = "";

    private Check() {
    }

    /** The words of the document that the answers behind this one are asked for. */
    static void sentence(String words) {
        sentence = words;
    }

    static void due(String call, long got, long want) {
        judge(call, got == want, Long.toString(got), Long.toString(want));
    }

    static void due(String call, double got, double want) {
        judge(call, got == want, Double.toString(got), Double.toString(want));
    }

    static void due(String call, boolean got, boolean want) {
        judge(call, got == want, Boolean.toString(got), Boolean.toString(want));
    }

    static void due(String call, String got, String want) {
        judge(call, got.equals(want), got, want);
    }

    static void judge(String call, boolean right, String got, String want) {
        asked++;
        if (!right) {
            wrong++;
            String words = sentence.isEmpty() ? "" : "[" + sentence + "] ";
            System.out.println(words + call + " answered " + got + ", due is " + want);
        }
    }

    /** The simple name of what a call throws, or its answer as a text. */
    static String outcome(DoubleSupplier call) {
        try {
            return Double.toString(call.getAsDouble());
        } catch (RuntimeException e) {
            return e.getClass().getSimpleName();
        }
    }

    static void end() {
        System.out.println(asked + " answers looked at, " + wrong + " wrong");
        if (wrong != 0 || asked == 0) {
            System.exit(1);
        }
    }

    /** Types a text in words of eight characters and a rest. */
    static boolean type(LoomDesk desk, String text) {
        boolean all = true;
        for (int i = 0; i < text.length(); i += 8) {
            String part = text.substring(i, Math.min(text.length(), i + 8));
            all &= desk.type(word(part), part.length());
        }
        return all;
    }

    static long word(String part) {
        long word = 0;
        for (int i = 0; i < part.length(); i++) {
            word = word << 8 | part.charAt(i);
        }
        return word;
    }

    static int compile(LoomDesk desk, String text) {
        type(desk, text);
        return desk.compile();
    }

    /** That a text is no pattern, and where. */
    static void fault(String text, int place) {
        LoomDesk desk = new LoomDesk();
        due("compile of '" + text + "'", compile(desk, text), place + 1);
        due("length behind '" + text + "'", desk.length(), 0);
    }

    /** That a text is a pattern, and of how many picks. */
    static void good(String text, long length) {
        due("length of '" + text + "'", desk(text).length(), length);
    }

    /** A new desk with a pattern. */
    static LoomDesk desk(String text) {
        LoomDesk desk = new LoomDesk();
        due("compile of '" + text + "'", compile(desk, text), 0);
        return desk;
    }

    /** A new desk with a pattern that runs, and has turned. */
    static LoomDesk running(String text, double degrees) {
        LoomDesk desk = desk(text);
        due("start", desk.start(), true);
        due("turn", desk.turn(degrees), degrees);
        return desk;
    }

    /** The same, standing at this angle behind its brake (of 60 degrees). */
    static LoomDesk stopped(String text, double degrees) {
        LoomDesk desk = running(text, degrees - 60);
        due("stop", desk.stop(), true);
        due("turn out", desk.turn(60), 60.0);
        due("stands", desk.state(0), 0);
        return desk;
    }
}
