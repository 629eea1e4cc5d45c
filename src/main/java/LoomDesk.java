/**
 * The desk of a loom, as ../shared/DOC.md promises it.
 *
 * Angles and ways are held as whole sixteenths of a degree: half of a SPEED
 * told in eighths comes to sixteenths and to nothing finer, so no sum is ever
 * rounded. What is taken up is held in quarters for the same reason.
 */
public final class LoomDesk {
    public static final int NONE = -1;

    private static final int STANDING = 0;
    private static final int RUNNING = 1;
    private static final int BRAKING = 2;

    private static final int NO_PICK = 0;
    private static final int PICK_IN = 1;
    private static final int PICK_BROKEN = 2;

    private static final int LIFT = 0;
    private static final int CARRIER = 1;
    private static final int DENSITY = 2;

    private static final int DEGREE = 16;
    private static final int AT_30 = 30 * DEGREE;
    private static final int AT_60 = 60 * DEGREE;
    private static final int AT_90 = 90 * DEGREE;
    private static final int AT_300 = 300 * DEGREE;
    private static final int FULL_TURN = 360 * DEGREE;

    // The longest way is ten turns with four marks in each, and a rest.
    private static final int MOST_STRETCHES = 64;

    private final Reader reader;
    private final Shaft shaft;
    private final Cloth woven;
    private final Records records;
    private Pattern pattern;
    private long place;
    private int shed;
    private int carrier;
    private int pick;
    private int missed;
    private boolean breakTold;
    private boolean power;

    public LoomDesk() {
        reader = new Reader();
        shaft = new Shaft();
        woven = new Cloth();
        records = new Records();
        pattern = new Pattern();
        place = 0;
        shed = 0;
        carrier = 0;
        pick = NO_PICK;
        missed = 0;
        breakTold = false;
        power = true;
    }

    public boolean type(long word, int n) {
        return reader.tape.put(word, n);
    }

    public int compile() {
        if (!power || !shaft.stands()) {
            return NONE;
        }
        int fault = reader.read();
        if (fault != NONE) {
            return fault + 1;
        }
        pattern = reader.exchange(pattern);
        place = 0;
        records.clear();
        return 0;
    }

    public long length() {
        return pattern.picks;
    }

    public int design(long p, int what) {
        return pattern.tell(p, what);
    }

    public boolean start() {
        if (!power || !shaft.stands() || pattern.picks == 0) {
            return false;
        }
        shaft.mode = RUNNING;
        return true;
    }

    public boolean stop() {
        return shaft.orderBrake();
    }

    public double turn(double d) throws IllegalStateException, IllegalArgumentException {
        if (!power || shaft.stands()) {
            throw new IllegalStateException("the shaft stands, or there is no power");
        }
        if (!(d >= 0.0 && d <= 3600.0)) {
            throw new IllegalArgumentException("the degrees are not 0 to 3600");
        }
        return degrees(goForwards(sixteenths(d)));
    }

    public double back(double d) throws IllegalStateException, IllegalArgumentException {
        if (!power || !shaft.stands() || pattern.picks == 0) {
            throw new IllegalStateException("the shaft does not stand, or there is no pattern or no power");
        }
        if (!(d >= 0.0 && d <= 1080.0)) {
            throw new IllegalArgumentException("the degrees are not 0 to 1080");
        }
        goBackwards(sixteenths(d));
        return degrees(shaft.at);
    }

    public boolean weft(boolean broken) {
        if (!power) {
            return false;
        }
        breakTold = broken;
        return true;
    }

    public boolean findPick() {
        if (!power || !shaft.stands() || pick != PICK_BROKEN) {
            return false;
        }
        if (shaft.at > AT_60) {
            goBackwards(shaft.at - AT_60);
        }
        return true;
    }

    public boolean jump(long p) {
        if (!power || !shaft.stands() || shaft.at >= AT_30 || !pattern.has(p)) {
            return false;
        }
        place = p;
        return true;
    }

    public boolean speed(float v) {
        if (!shaft.stands() || !(v >= 60.0f && v <= 300.0f)) {
            return false;
        }
        shaft.pace = (int) (v * 8.0f);
        return true;
    }

    public boolean cut(boolean spoils) {
        if (!power) {
            return false;
        }
        power = false;
        shaft.stand();
        pick = NO_PICK;
        breakTold = false;
        shed = 0;
        carrier = 0;
        woven.forget();
        if (spoils) {
            records.spoilLast();
        }
        return true;
    }

    public boolean on() {
        if (power) {
            return false;
        }
        power = true;
        place = recall();
        pick = shaft.at >= AT_90 ? PICK_IN : NO_PICK;
        return true;
    }

    public double angle() {
        return degrees(shaft.at);
    }

    public float left() {
        return (float) shaft.toGo / 16.0f;
    }

    public double roll(double ratio) {
        if (!(ratio >= -4096.0 && ratio <= 4096.0)) {
            return 0.0;
        }
        // Quarters times eighths are thirty-seconds.
        long driven = woven.taken * (long) (ratio * 8.0);
        return (double) (driven % (360L * 32L)) / 32.0;
    }

    public int letOff(float tension) {
        if (!(tension >= -1000000000.0f && tension <= 1000000000.0f)) {
            return 0;
        }
        // A rest by 12.5 times 8 is the rest of the eighths by 100.
        long eighths = (long) (tension * 8.0f);
        return (int) (eighths % 100L);
    }

    public int state(int what) {
        switch (what) {
            case 0:
                return shaft.mode;
            case 1:
                return shed;
            case 2:
                return carrier;
            case 3:
                return pick;
            case 4:
                return missed;
            case 5:
                return shaft.orders;
            case 6:
                return (int) Math.floorDiv(woven.taken, 4L);
            case 7:
                return power ? 1 : 0;
            default:
                return NONE;
        }
    }

    public long count(int what) {
        switch (what) {
            case 0:
                return place;
            case 1:
                return woven.beaten;
            case 2:
                return shaft.turns;
            default:
                return NONE;
        }
    }

    public int cloth(int i, int what) {
        return woven.tell(i, what);
    }

    private static double degrees(int sixteenths) {
        return (double) sixteenths / 16.0;
    }

    private static int sixteenths(double degrees) {
        int eighths = (int) (degrees * 8.0);
        return eighths * 2;
    }

    private int goForwards(int way) {
        int rest = way;
        for (int i = 0; i < MOST_STRETCHES && rest > 0 && !shaft.stands(); i++) {
            int mark = shaft.markAbove();
            rest -= shaft.goTowards(mark, rest);
            if (shaft.at == mark) {
                comeTo(mark);
            }
            shaft.standWhenSpent();
        }
        return way - rest;
    }

    private void comeTo(int mark) {
        switch (mark) {
            case AT_30:
                carrier = pattern.tell(place, CARRIER);
                break;
            case AT_90:
                insert();
                break;
            case AT_300:
                shed = pattern.tell(place, LIFT);
                records.write(300, place);
                break;
            default:
                endTurn();
                break;
        }
    }

    private void insert() {
        if (breakTold) {
            pick = PICK_BROKEN;
            shaft.orderBrake();
        } else {
            pick = PICK_IN;
        }
        breakTold = false;
    }

    private void endTurn() {
        if (pick == PICK_IN) {
            woven.beatUp(shed, carrier, pattern.tell(place, DENSITY));
            place = pattern.behind(place);
        } else if (pick == PICK_BROKEN) {
            missed++;
        }
        pick = NO_PICK;
        records.write(0, place);
        shaft.at = 0;
        shaft.turns++;
    }

    private void goBackwards(int way) {
        int rest = way;
        // A mark where the shaft stands at first is still to be undone.
        int ceiling = shaft.at + 1;
        for (int i = 0; i < MOST_STRETCHES; i++) {
            int mark = shaft.markBelow(ceiling);
            int stretch = shaft.at - mark;
            if (rest <= stretch) {
                break;
            }
            rest -= stretch;
            shaft.at = mark;
            undo(mark);
            ceiling = shaft.at;
        }
        shaft.at -= rest;
    }

    private void undo(int mark) {
        if (mark == AT_90) {
            pick = NO_PICK;
        } else if (mark == 0) {
            reopenTurn();
        }
    }

    private void reopenTurn() {
        pick = NO_PICK;
        if (woven.takeOff()) {
            pick = PICK_IN;
            place = pattern.before(place);
        }
        shaft.at = FULL_TURN;
        shaft.turns--;
    }

    private long recall() {
        int record = records.newest();
        if (record == NONE) {
            return 0;
        }
        long kept = records.placeOf(record);
        boolean done = records.markOf(record) == 300 && shaft.at < AT_300;
        return done ? pattern.behind(kept) : kept;
    }

    /** The shaft and its brake; ways and angles in sixteenths of a degree. */
    private static final class Shaft {
        private int at;
        private int mode;
        private int toGo;
        private int pace;
        private int orders;
        private long turns;

        Shaft() {
            at = 0;
            mode = STANDING;
            toGo = 0;
            pace = 120 * 8;
            orders = 0;
            turns = 0;
        }

        boolean stands() {
            return mode == STANDING;
        }

        void stand() {
            mode = STANDING;
            toGo = 0;
        }

        boolean orderBrake() {
            if (mode != RUNNING) {
                return false;
            }
            mode = BRAKING;
            // The eighths of the SPEED are the sixteenths of its half.
            toGo = pace;
            orders++;
            return true;
        }

        int markAbove() {
            if (at < AT_30) {
                return AT_30;
            }
            if (at < AT_90) {
                return AT_90;
            }
            return at < AT_300 ? AT_300 : FULL_TURN;
        }

        int markBelow(int ceiling) {
            if (ceiling > AT_300) {
                return AT_300;
            }
            if (ceiling > AT_90) {
                return AT_90;
            }
            return ceiling > AT_30 ? AT_30 : 0;
        }

        int goTowards(int mark, int most) {
            int stretch = Math.min(mark - at, most);
            if (mode == BRAKING) {
                stretch = Math.min(stretch, toGo);
                toGo -= stretch;
            }
            at += stretch;
            return stretch;
        }

        void standWhenSpent() {
            if (mode == BRAKING && toGo == 0) {
                stand();
            }
        }
    }

    /** What is woven: all of it as numbers, the newest picks one by one. */
    private static final class Cloth {
        private static final int IN_MIND = 64;

        private final int[] sheds;
        private final int[] carriers;
        private final int[] densities;
        private int next;
        private int kept;
        private long beaten;
        private long taken;

        Cloth() {
            sheds = new int[IN_MIND];
            carriers = new int[IN_MIND];
            densities = new int[IN_MIND];
            next = 0;
            kept = 0;
            beaten = 0;
            taken = 0;
        }

        void beatUp(int shed, int carrier, int density) {
            int slot = Math.floorMod(next, IN_MIND);
            sheds[slot] = shed;
            carriers[slot] = carrier;
            densities[slot] = density;
            next = Math.floorMod(slot + 1, IN_MIND);
            kept = Math.min(kept + 1, IN_MIND);
            beaten++;
            taken += quarters(density);
        }

        boolean takeOff() {
            if (kept <= 0) {
                return false;
            }
            next = slotOf(0);
            kept--;
            beaten--;
            taken -= quarters(densities[next]);
            return true;
        }

        void forget() {
            kept = 0;
        }

        int tell(int i, int what) {
            if (i < 0 || i >= kept) {
                return NONE;
            }
            int slot = slotOf(i);
            switch (what) {
                case LIFT:
                    return sheds[slot];
                case CARRIER:
                    return carriers[slot];
                case DENSITY:
                    return densities[slot];
                default:
                    return NONE;
            }
        }

        private int slotOf(int i) {
            return Math.floorMod(next - 1 - i, IN_MIND);
        }

        private static int quarters(int density) {
            return density > 0 ? 4000 / density : 0;
        }
    }

    /** The two places that keep PLACE over a cut of the power. */
    private static final class Records {
        private final int[] marks;
        private final long[] places;
        private int last;

        Records() {
            marks = new int[] {NONE, NONE};
            places = new long[] {0, 0};
            last = 0;
        }

        void write(int mark, long place) {
            last = other();
            marks[last] = mark;
            places[last] = place;
        }

        void spoilLast() {
            marks[last] = NONE;
        }

        void clear() {
            marks[0] = NONE;
            marks[1] = NONE;
        }

        int newest() {
            if (marks[last] != NONE) {
                return last;
            }
            return marks[other()] != NONE ? other() : NONE;
        }

        int markOf(int record) {
            return record == 0 || record == 1 ? marks[record] : NONE;
        }

        long placeOf(int record) {
            return record == 0 || record == 1 ? places[record] : 0;
        }

        private int other() {
            return last == 0 ? 1 : 0;
        }
    }

    /**
     * The items of a text in their order, never unrolled: a bracket knows how
     * many picks one time through it has, and what it leaves behind it.
     */
    private static final class Pattern {
        private static final int PICK_ITEM = 0;
        private static final int CARRIER_ITEM = 1;
        private static final int DENSITY_ITEM = 2;
        private static final int REPEAT_ITEM = 3;
        private static final int MIRROR_ITEM = 4;

        // Every item takes two characters of the tape at least.
        private static final int MOST_ITEMS = Tape.MOST / 2;

        private final int[] kinds;
        private final int[] values;
        private final int[] ends;
        private final long[] insides;
        private final int[] carriers;
        private final int[] densities;
        private int size;
        private long picks;

        // Where a walk to one pick is; used by tell alone.
        private long ahead;
        private int carrier;
        private int density;

        Pattern() {
            kinds = new int[MOST_ITEMS];
            values = new int[MOST_ITEMS];
            ends = new int[MOST_ITEMS];
            insides = new long[MOST_ITEMS];
            carriers = new int[MOST_ITEMS];
            densities = new int[MOST_ITEMS];
            size = 0;
            picks = 0;
            ahead = 0;
            carrier = 0;
            density = 0;
        }

        boolean has(long p) {
            return p >= 0 && p < picks;
        }

        long behind(long p) {
            return has(p + 1) ? p + 1 : 0;
        }

        long before(long p) {
            return has(p - 1) ? p - 1 : Math.max(picks - 1, 0);
        }

        void clear() {
            size = 0;
            picks = 0;
        }

        void add(int kind, int value) {
            if (size < 0 || size >= MOST_ITEMS) {
                return;
            }
            kinds[size] = kind;
            values[size] = value;
            size++;
        }

        /** Ends the bracket of an item here, and answers its times. */
        int end(int item, long inside, int lastCarrier, int lastDensity) {
            if (item < 0 || item >= size) {
                return 0;
            }
            ends[item] = size;
            insides[item] = inside;
            carriers[item] = lastCarrier;
            densities[item] = lastDensity;
            return values[item];
        }

        int tell(long p, int what) {
            if (!has(p)) {
                return NONE;
            }
            ahead = p;
            carrier = 0;
            density = 100;
            int item = 0;
            for (int i = 0; i < MOST_ITEMS && item >= 0 && item < size; i++) {
                if (kinds[item] == PICK_ITEM && ahead == 0) {
                    return tellHere(values[item], what);
                }
                item = pass(item);
            }
            return NONE;
        }

        private int tellHere(int lift, int what) {
            switch (what) {
                case LIFT:
                    return lift;
                case CARRIER:
                    return carrier;
                case DENSITY:
                    return density;
                default:
                    return NONE;
            }
        }

        /** Goes past an item, or into it, and answers the item to go on at. */
        private int pass(int item) {
            switch (kinds[item]) {
                case PICK_ITEM:
                    ahead--;
                    return item + 1;
                case CARRIER_ITEM:
                    carrier = values[item];
                    return item + 1;
                case DENSITY_ITEM:
                    density = values[item];
                    return item + 1;
                default:
                    return passBracket(item);
            }
        }

        private int passBracket(int item) {
            long once = insides[item];
            if (ahead < once) {
                return item + 1;
            }
            long all = once * values[item];
            if (kinds[item] == MIRROR_ITEM && ahead < all) {
                // Backwards each pick has what it had the first time, so the
                // walk goes in with what stood ahead of the bracket.
                ahead = all - 1 - ahead;
                return item + 1;
            }
            if (carriers[item] != NONE) {
                carrier = carriers[item];
            }
            if (densities[item] != NONE) {
                density = densities[item];
            }
            if (ahead < all && once > 0) {
                ahead %= once;
                return item + 1;
            }
            ahead -= all;
            return ends[item];
        }
    }

    /** The characters that were typed. */
    private static final class Tape {
        private static final int MOST = 160;
        private static final int BLANK = ' ';

        private final int[] chars;
        private int size;

        Tape() {
            chars = new int[MOST];
            size = 0;
        }

        boolean put(long word, int n) {
            if (n < 1 || n > 8 || size + n > MOST) {
                return false;
            }
            for (int i = 0; i < n; i++) {
                int c = byteOf(word, i);
                if (c < 32 || c > 126) {
                    return false;
                }
            }
            for (int i = n - 1; i >= 0; i--) {
                add(byteOf(word, i));
            }
            return true;
        }

        /** The character at a place, NONE behind the last one. */
        int charOf(int pos) {
            return pos >= 0 && pos < size ? chars[pos] : NONE;
        }

        int behindBlanks(int pos) {
            int p = pos;
            for (int i = 0; i < MOST && charOf(p) == BLANK; i++) {
                p++;
            }
            return p;
        }

        void clear() {
            size = 0;
        }

        private void add(int c) {
            if (size >= 0 && size < MOST) {
                chars[size] = c;
                size++;
            }
        }

        private static int byteOf(long word, int i) {
            return (int) (word >>> (8 * i)) & 255;
        }
    }

    /** Reads the tape into a pattern of its own, until it is exchanged. */
    private static final class Reader {
        private static final long MOST_PICKS = 2000000000L;
        private static final int MOST_BRACKETS = 6;
        private static final int MOST_LIFT = 0xffffff;
        private static final int[] ALLOWED = {20, 25, 40, 50, 80, 100, 125, 160, 200, 250, 400};

        private final Tape tape;
        private Pattern goal;
        private int pos;
        private int fault;

        // One row each for what is outside all brackets, in one, in two ..
        private int depth;
        private final int[] items;
        private final long[] picks;
        private final int[] carriers;
        private final int[] densities;

        Reader() {
            tape = new Tape();
            goal = new Pattern();
            pos = 0;
            fault = NONE;
            depth = 0;
            items = new int[MOST_BRACKETS + 1];
            picks = new long[MOST_BRACKETS + 1];
            carriers = new int[MOST_BRACKETS + 1];
            densities = new int[MOST_BRACKETS + 1];
        }

        /** The pattern that was read; another one is the next to be filled. */
        Pattern exchange(Pattern old) {
            Pattern done = goal;
            goal = old;
            return done;
        }

        /** Empties the tape, and answers the place of its fault, or NONE. */
        int read() {
            goal.clear();
            pos = tape.behindBlanks(0);
            fault = NONE;
            depth = 0;
            beginLevel();
            int first = pos;
            for (int i = 0; i < Tape.MOST && fault == NONE && pos < tape.size; i++) {
                readItem();
                pos = tape.behindBlanks(pos);
            }
            if (depth > 0) {
                faultAt(tape.size);
            }
            if (picks[0] < 1 || picks[0] > MOST_PICKS) {
                faultAt(first);
            }
            goal.picks = picks[0];
            tape.clear();
            return fault;
        }

        private void readItem() {
            switch (tape.charOf(pos)) {
                case 'h':
                    readPick();
                    break;
                case 'c':
                    readCarrier();
                    break;
                case 'd':
                    readDensity();
                    break;
                case 'r':
                    readRepeat();
                    break;
                case 'm':
                    pos++;
                    open(Pattern.MIRROR_ITEM, 2);
                    break;
                case ')':
                    close();
                    break;
                default:
                    faultAt(pos);
                    break;
            }
        }

        private void readPick() {
            pos++;
            goal.add(Pattern.PICK_ITEM, readDigits(16, 6));
            addPicks(1);
        }

        private void readCarrier() {
            pos++;
            int value = readDigits(8, 1);
            goal.add(Pattern.CARRIER_ITEM, value);
            carriers[depth] = value;
        }

        private void readDensity() {
            pos++;
            int first = pos;
            int value = readDigits(10, Tape.MOST);
            if (!isAllowed(value)) {
                faultAt(first);
            }
            goal.add(Pattern.DENSITY_ITEM, value);
            densities[depth] = value;
        }

        private void readRepeat() {
            pos++;
            int first = pos;
            int times = readDigits(10, 4);
            if (times == 0) {
                faultAt(first);
            }
            open(Pattern.REPEAT_ITEM, times);
        }

        private void open(int kind, int times) {
            pos = tape.behindBlanks(pos);
            if (tape.charOf(pos) != '(' || depth >= MOST_BRACKETS) {
                faultAt(pos);
                return;
            }
            pos++;
            depth++;
            beginLevel();
            items[depth] = goal.size;
            goal.add(kind, times);
        }

        private void close() {
            if (depth <= 0 || picks[depth] == 0) {
                faultAt(pos);
                return;
            }
            pos++;
            int lastCarrier = carriers[depth];
            int lastDensity = densities[depth];
            long once = picks[depth];
            int times = goal.end(items[depth], once, lastCarrier, lastDensity);
            depth--;
            addPicks(once * times);
            if (lastCarrier != NONE) {
                carriers[depth] = lastCarrier;
            }
            if (lastDensity != NONE) {
                densities[depth] = lastDensity;
            }
        }

        private void beginLevel() {
            items[depth] = NONE;
            picks[depth] = 0;
            carriers[depth] = NONE;
            densities[depth] = NONE;
        }

        // More than enough stays one more than enough: no product overflows.
        private void addPicks(long more) {
            picks[depth] = Math.min(picks[depth] + more, MOST_PICKS + 1);
        }

        /** The value of the digits here, cut to MOST_LIFT; one at least. */
        private int readDigits(int base, int most) {
            int first = pos;
            int value = 0;
            for (int i = 0; i < most; i++) {
                int digit = digitOf(tape.charOf(pos));
                if (digit < 0 || digit >= base) {
                    break;
                }
                value = Math.min(value * base + digit, MOST_LIFT);
                pos++;
            }
            if (pos == first) {
                faultAt(pos);
            }
            return value;
        }

        private static int digitOf(int c) {
            if (c >= '0' && c <= '9') {
                return c - '0';
            }
            return c >= 'a' && c <= 'f' ? c - 'a' + 10 : NONE;
        }

        private static boolean isAllowed(int density) {
            for (int i = 0; i < ALLOWED.length; i++) {
                if (ALLOWED[i] == density) {
                    return true;
                }
            }
            return false;
        }

        // The first fault is the one that counts.
        private void faultAt(int place) {
            if (fault == NONE) {
                fault = place;
            }
        }
    }
}
