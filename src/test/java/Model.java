import java.math.BigInteger;
import java.util.ArrayList;
import java.util.List;

/**
 * The document once more, in another way, to hold LoomDesk against: patterns are
 * unrolled pick by pick, the shaft goes by one sixteenth of a degree at a time, and
 * lists keep everything. It is slow, and good for patterns of few picks alone.
 */
final class Model {
    static final int MOST_UNROLLED = 20000;
    private static final BigInteger MOST = BigInteger.valueOf(2000000000L);
    private static final List<Integer> DENSITIES =
        List.of(20, 25, 40, 50, 80, 100, 125, 160, 200, 250, 400);

    record Pick(int lift, int carrier, int density) {
    }

    record Written(int mark, long place) {
    }

    /** A text that is no pattern, and where. */
    static final class Fault extends Exception {
        private static final long serialVersionUID = 1L;
        final int place;

        Fault(int place) {
            this.place = place;
        }
    }

    // the tape and the pattern
    String tape = "";
    List<Pick> picks = new ArrayList<>();
    BigInteger size = BigInteger.ZERO;
    // the loom
    int place;
    int shed;
    int carrier;
    boolean in;
    boolean broken;
    boolean sensor;
    boolean power = true;
    int missed;
    // the shaft
    int angle;
    int mode;
    int left;
    int speed = 960;
    int orders;
    int turns;
    // the cloth and the records
    List<Pick> cloth = new ArrayList<>();
    int inMind;
    Written[] records = new Written[2];
    int written;

    int compile() {
        if (mode != 0 || !power) {
            return -1;
        }
        String text = tape;
        tape = "";
        Text reader = new Text(text);
        try {
            reader.whole();
        } catch (Fault f) {
            return f.place + 1;
        }
        size = reader.size;
        picks = reader.all;
        place = 0;
        records = new Written[2];
        return 0;
    }

    void sixteenthForwards() {
        angle++;
        if (mode == 2) {
            left--;
        }
        if (angle == 30 * 16) {
            carrier = picks.get(place).carrier();
        } else if (angle == 90 * 16) {
            broken = sensor;
            in = !sensor;
            if (sensor) {
                brake();
            }
            sensor = false;
        } else if (angle == 300 * 16) {
            shed = picks.get(place).lift();
            write(new Written(300, place));
        } else if (angle == 360 * 16) {
            zero();
        }
        if (mode == 2 && left == 0) {
            mode = 0;
        }
    }

    private void zero() {
        if (in) {
            cloth.add(new Pick(shed, carrier, picks.get(place).density()));
            inMind = Math.min(64, inMind + 1);
            place = (place + 1) % picks.size();
        }
        if (broken) {
            missed++;
        }
        in = false;
        broken = false;
        write(new Written(0, place));
        turns++;
        angle = 0;
    }

    void sixteenthBackwards() {
        // what is at the angle that it leaves is undone now
        if (angle == 90 * 16) {
            in = false;
            broken = false;
        } else if (angle == 0) {
            broken = false;
            in = inMind > 0;
            if (in) {
                cloth.remove(cloth.size() - 1);
                inMind--;
                place = (place + picks.size() - 1) % picks.size();
            }
            turns--;
            angle = 360 * 16;
        }
        angle--;
    }

    boolean brake() {
        if (mode != 1) {
            return false;
        }
        mode = 2;
        left = speed;
        orders++;
        return true;
    }

    private void write(Written r) {
        records[written % 2] = r;
        written++;
    }

    void cut(boolean spoils) {
        power = false;
        mode = 0;
        left = 0;
        in = false;
        broken = false;
        sensor = false;
        shed = 0;
        carrier = 0;
        inMind = 0;
        if (spoils && written > 0) {
            records[(written - 1) % 2] = null;
        }
    }

    void on() {
        power = true;
        place = 0;
        for (int back = 2; back >= 1; back--) {
            Written r = written < back ? null : records[(written - back) % 2];
            if (r != null) {
                boolean behind = r.mark() == 300 && angle < 300 * 16;
                place = (int) ((r.place() + (behind ? 1 : 0)) % picks.size());
            }
        }
        in = angle >= 90 * 16;
    }

    double takenUp() {
        double sum = 0;
        for (Pick p : cloth) {
            sum += 1000.0 / p.density();
        }
        return sum;
    }

    /** Reads a text by what may stand at each place of it. */
    private static final class Text {
        private final String text;
        private int at;
        private int carrier;
        private int density = 100;
        private BigInteger size;
        private List<Pick> all;

        Text(String text) {
            this.text = text;
        }

        void whole() throws Fault {
            List<Object> items = items(0);
            size = sizeOf(items);
            if (size.signum() == 0 || size.compareTo(MOST) > 0) {
                int first = 0;
                while (first < text.length() && text.charAt(first) == ' ') {
                    first++;
                }
                throw new Fault(first);
            }
            all = size.intValue() <= MOST_UNROLLED ? unroll(items) : new ArrayList<>();
        }

        private char next() {
            return at < text.length() ? text.charAt(at) : 0;
        }

        private void blanks() {
            while (next() == ' ') {
                at++;
            }
        }

        private String digits(String allowed, int most) throws Fault {
            int from = at;
            while (at - from < most && next() != 0 && allowed.indexOf(next()) >= 0) {
                at++;
            }
            if (at == from) {
                throw new Fault(at);
            }
            return text.substring(from, at);
        }

        /** An item is a Pick, a text for a carrier or density, or an Object[] for a bracket. */
        private List<Object> items(int depth) throws Fault {
            List<Object> found = new ArrayList<>();
            while (true) {
                blanks();
                char c = next();
                if (c == 0 && depth == 0 || c == ')' && depth > 0) {
                    return found;
                }
                if (c == 0 || "hcdrm".indexOf(c) < 0) {
                    throw new Fault(at);
                }
                at++;
                found.add(item(c, depth));
            }
        }

        private Object item(char c, int depth) throws Fault {
            int from = at;
            if (c == 'h') {
                return new Pick(Integer.parseInt(digits("0123456789abcdef", 6), 16), -1, -1);
            }
            if (c == 'c') {
                return "c" + digits("01234567", 1);
            }
            if (c == 'd') {
                BigInteger value = new BigInteger(digits("0123456789", 999));
                if (value.bitLength() > 20 || !DENSITIES.contains(value.intValue())) {
                    throw new Fault(from);
                }
                return "d" + value;
            }
            int times = 0;
            if (c == 'r') {
                times = Integer.parseInt(digits("0123456789", 4));
                if (times == 0) {
                    throw new Fault(from);
                }
            }
            blanks();
            if (next() != '(' || depth == 6) {
                throw new Fault(at);
            }
            at++;
            List<Object> inside = items(depth + 1);
            if (sizeOf(inside).signum() == 0) {
                throw new Fault(at);
            }
            at++;
            return new Object[] {times, inside};
        }

        @SuppressWarnings("unchecked")
        private static BigInteger sizeOf(List<Object> items) {
            BigInteger sum = BigInteger.ZERO;
            for (Object item : items) {
                if (item instanceof Pick) {
                    sum = sum.add(BigInteger.ONE);
                } else if (item instanceof Object[] b) {
                    int times = (Integer) b[0] == 0 ? 2 : (Integer) b[0];
                    sum = sum.add(sizeOf((List<Object>) b[1]).multiply(BigInteger.valueOf(times)));
                }
            }
            return sum;
        }

        @SuppressWarnings("unchecked")
        private List<Pick> unroll(List<Object> items) {
            List<Pick> done = new ArrayList<>();
            for (Object item : items) {
                if (item instanceof Pick p) {
                    done.add(new Pick(p.lift(), carrier, density));
                } else if (item instanceof String s && s.charAt(0) == 'c') {
                    carrier = Integer.parseInt(s.substring(1));
                } else if (item instanceof String s) {
                    density = Integer.parseInt(s.substring(1));
                } else if (item instanceof Object[] b) {
                    bracket((Integer) b[0], (List<Object>) b[1], done);
                }
            }
            return done;
        }

        private void bracket(int times, List<Object> inside, List<Pick> done) {
            for (int i = 0; i < times; i++) {
                done.addAll(unroll(inside));
            }
            if (times == 0) {
                List<Pick> half = unroll(inside);
                done.addAll(half);
                for (int i = half.size() - 1; i >= 0; i--) {
                    done.add(half.get(i));
                }
            }
        }
    }
}
