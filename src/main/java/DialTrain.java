/**
 * Dials that are wound round: rows of readings, and wheels on spindles.
 *
 * <p>Numbers are kept as their BITS, and WHAT IS LEFT is reckoned on them in longs: LANGUAGE.md
 * leaves neither the % of floats and doubles nor the library's functions from and to BITS.
 */
public final class DialTrain {
    public static final int BAD = -1, NULL = -11, CAST = -12, INDEX = -13, STORE = -14, NONE = -15, SIZE = -16;

    private static final int SLOTS = 8;
    private static final int WHEELS = 6;
    private static final int MOST_ITEMS = 24;
    private static final int MOST_TEETH = 1000000;

    private static final int FLOATS = 0;
    private static final int DOUBLES = 1;
    private static final int SPINDLE = 2;
    private static final int FAST_SPINDLE = 3;

    private static final int WHEEL = 0;
    private static final int RATCHET = 1;

    /** Told instead of BITS; as a float's or a double's it would be no number, so none is lost. */
    private static final long NO_NUMBER = -1L;

    private final Row[] slots = new Row[SLOTS];
    private final Wheel[] wheels = new Wheel[WHEELS];
    /** How often NULL, CAST, INDEX, STORE, NONE were told, in this order. */
    private final int[] refusals = new int[5];
    private int wheelsMade;
    /** The latest refusal: for those who are handed null and must tell why. */
    private int why;
    /** What failed() tells; kept apart from why, as other calls do not change it. */
    private int whyZero;

    public DialTrain() {
    }

    public int row(int slot, int kind, int n) {
        if (!isSlot(slot) || kind < FLOATS || kind > FAST_SPINDLE || n > MOST_ITEMS) {
            return refuse(BAD);
        }
        if (n < 0) {
            return refuse(SIZE);
        }
        if (isLane(kind)) {
            slots[slot] = new Readings(kind, n);
        } else {
            slots[slot] = new Spindle(kind, n);
        }
        return 1;
    }

    public int hold(int from, int to) {
        if (from != -1 && !isSlot(from) || !isSlot(to)) {
            return refuse(BAD);
        }
        slots[to] = from == -1 ? null : slots[from];
        return 1;
    }

    public int same(int slot, int other) {
        if (!isSlot(slot) || !isSlot(other)) {
            return refuse(BAD);
        }
        return slots[slot] == slots[other] ? 1 : 0;
    }

    public int size(int slot, int lane) {
        if (!isSlot(slot) || lane < FLOATS || lane > FAST_SPINDLE) {
            return refuse(BAD);
        }
        Row row = take(slot, lane);
        return row == null ? why : row.length;
    }

    public int put(int slot, int lane, int i, long bits) {
        if (!isSlot(slot) || !isNumber(lane, bits)) {
            return refuse(BAD);
        }
        Readings readings = takeItem(slot, lane, i);
        if (readings == null) {
            return why;
        }
        readings.items[i] = readings.lane.trimmed(bits);
        return 1;
    }

    public long get(int slot, int lane, int i) {
        if (!isSlot(slot) || !isLane(lane)) {
            return zero(refuse(BAD));
        }
        Readings readings = takeItem(slot, lane, i);
        if (readings == null) {
            return zero(why);
        }
        whyZero = 0;
        return readings.items[i];
    }

    public int rest(int slot, int lane, int i, long by) {
        if (!isSlot(slot) || !isNumber(lane, by)) {
            return refuse(BAD);
        }
        Readings readings = takeItem(slot, lane, i);
        if (readings == null) {
            return why;
        }
        return readings.leave(i, by) ? 1 : refuse(NONE);
    }

    public int wind(int slot, int lane, int i, long by) {
        if (!isSlot(slot) || !isNumber(lane, by)) {
            return refuse(BAD);
        }
        Readings readings = takeReadings(slot, lane);
        if (readings == null) {
            return why;
        }
        if (i < 0 || i > readings.length) {
            return refuse(INDEX);
        }
        int at = i;
        while (at < readings.length && readings.leave(at, by)) {
            at++;
        }
        if (at < readings.length) {
            refuse(NONE);
        }
        return at - i;
    }

    public long as(int slot, int lane, int i, int how) {
        if (!isSlot(slot) || !isLane(lane) || how < 0 || how > 6) {
            return zero(refuse(BAD));
        }
        Readings readings = takeItem(slot, lane, i);
        if (readings == null) {
            return zero(why);
        }
        whyZero = 0;
        return castTo(how, readings.number(i));
    }

    public int whole(int slot, int lane, int i, long v, int how) {
        if (!isSlot(slot) || !isLane(lane) || how < 0 || how > 3) {
            return refuse(BAD);
        }
        Readings readings = takeItem(slot, lane, i);
        if (readings == null) {
            return why;
        }
        readings.items[i] = readings.lane.bitsOfWhole(v, how);
        return 1;
    }

    public int move(int slot, int lane, int i, int to, int toLane, int j) {
        if (!isSlot(slot) || !isLane(lane) || !isSlot(to) || !isLane(toLane)) {
            return refuse(BAD);
        }
        Readings source = takeItem(slot, lane, i);
        if (source == null) {
            return why;
        }
        Readings target = takeItem(to, toLane, j);
        if (target == null) {
            return why;
        }
        target.items[j] = target.lane.bitsOf(source.number(i));
        return 1;
    }

    public int failed() {
        return whyZero;
    }

    public int wheel(int k, int kind, int teeth) {
        if (!isWheel(k) || kind < WHEEL || kind > RATCHET || teeth < 1 || teeth > MOST_TEETH) {
            return refuse(BAD);
        }
        wheels[k] = kind == RATCHET ? new Ratchet(teeth) : new Wheel(teeth);
        wheelsMade++;
        return 1;
    }

    public int lay(int slot, int i, int k) {
        if (!isSlot(slot) || k != -1 && !isWheel(k)) {
            return refuse(BAD);
        }
        Spindle spindle = takePlace(slot, i);
        if (spindle == null) {
            return why;
        }
        Wheel wheel = k == -1 ? null : wheels[k];
        if (!spindle.bears(wheel)) {
            return refuse(STORE);
        }
        spindle.places[i] = wheel;
        return 1;
    }

    public int turn(int slot, int i, long by) {
        if (!isSlot(slot) || !isNumber(DOUBLES, by)) {
            return refuse(BAD);
        }
        Wheel wheel = takeWheel(slot, i);
        return wheel == null ? why : turnOn(wheel, by);
    }

    public int train(int slot, int i, int from, int j) {
        if (!isSlot(slot) || !isSlot(from)) {
            return refuse(BAD);
        }
        Readings doubles = takeItem(from, DOUBLES, j);
        if (doubles == null) {
            return why;
        }
        Spindle spindle = takeSpindle(slot);
        if (spindle == null) {
            return why;
        }
        if (i < 0) {
            return refuse(INDEX);
        }
        int turned = 0;
        for (int at = i; at < spindle.length; at++) {
            Wheel wheel = spindle.places[at];
            // a place without a wheel ends it like the end of the spindle does: that is no refusal
            if (wheel == null || turnOn(wheel, doubles.items[j]) < 0) {
                break;
            }
            turned++;
        }
        return turned;
    }

    public long angle(int slot, int i) {
        if (!isSlot(slot)) {
            return zero(refuse(BAD));
        }
        Wheel wheel = takeWheel(slot, i);
        if (wheel == null) {
            return zero(why);
        }
        whyZero = 0;
        return wheel.angle;
    }

    public long clicks(int slot, int i) {
        if (!isSlot(slot)) {
            return zero(refuse(BAD));
        }
        Wheel wheel = takeWheel(slot, i);
        if (wheel == null) {
            return zero(why);
        }
        if (wheel instanceof Ratchet ratchet) {
            whyZero = 0;
            return ratchet.clicks;
        }
        return zero(refuse(CAST));
    }

    public int count(int what) {
        if (what < 0 || what > 6) {
            return refuse(BAD);
        }
        if (what == 0) {
            return slotsInUse();
        }
        return what == 1 ? wheelsMade : refusals[what - 2];
    }

    private static boolean isSlot(int slot) {
        return slot >= 0 && slot < SLOTS;
    }

    private static boolean isWheel(int k) {
        return k >= 0 && k < WHEELS;
    }

    private static boolean isLane(int lane) {
        return lane == FLOATS || lane == DOUBLES;
    }

    private static boolean isNumber(int lane, long bits) {
        return isLane(lane) && laneOf(lane).isNumber(bits);
    }

    private static Lane laneOf(int lane) {
        return lane == FLOATS ? Lane.FLOAT : Lane.DOUBLE;
    }

    /** BAD and SIZE are told, too, but the document does not count them. */
    private int refuse(int refusal) {
        int counter = NULL - refusal;
        if (counter >= 0 && counter < refusals.length) {
            refusals[counter]++;
        }
        why = refusal;
        return refusal;
    }

    private long zero(int refusal) {
        whyZero = refusal;
        return 0;
    }

    /** Like the take.. methods below it, null if it is refused: then why tells the refusal. */
    private Row take(int slot, int lane) {
        Row row = slots[slot];
        if (row == null) {
            refuse(NULL);
            return null;
        }
        if (!row.fits(lane)) {
            refuse(CAST);
            return null;
        }
        return row;
    }

    private Readings takeReadings(int slot, int lane) {
        return take(slot, lane) instanceof Readings readings ? readings : null;
    }

    private Readings takeItem(int slot, int lane, int i) {
        Readings readings = takeReadings(slot, lane);
        return readings != null && reaches(readings, i) ? readings : null;
    }

    private Spindle takeSpindle(int slot) {
        return take(slot, SPINDLE) instanceof Spindle spindle ? spindle : null;
    }

    private Spindle takePlace(int slot, int i) {
        Spindle spindle = takeSpindle(slot);
        return spindle != null && reaches(spindle, i) ? spindle : null;
    }

    private Wheel takeWheel(int slot, int i) {
        Spindle spindle = takePlace(slot, i);
        if (spindle == null) {
            return null;
        }
        Wheel wheel = spindle.places[i];
        if (wheel == null) {
            refuse(NULL);
        }
        return wheel;
    }

    private boolean reaches(Row row, int i) {
        if (i < 0 || i >= row.length) {
            refuse(INDEX);
            return false;
        }
        return true;
    }

    private int turnOn(Wheel wheel, long by) {
        if (Lane.DOUBLE.isEndless(by)) {
            return refuse(NONE);
        }
        return wheel.turnBy(Lane.DOUBLE.number(by)) ? 1 : 0;
    }

    private int slotsInUse() {
        int used = 0;
        for (int slot = 0; slot < SLOTS; slot++) {
            if (slots[slot] != null) {
                used++;
            }
        }
        return used;
    }

    /** A float's cast is that of the double that it is, for all of these. */
    private static long castTo(int how, double x) {
        switch (how) {
            case 0:
                return (int) x;
            case 1:
                return (long) x;
            case 2:
                return (byte) (int) x;
            case 3:
                return (short) (int) x;
            case 4:
                return (char) (int) x;
            case 5:
                return Lane.FLOAT.bitsOf(x);
            default:
                return Lane.DOUBLE.bitsOf(x);
        }
    }

    private abstract static class Row {
        final int kind;
        final int length;

        Row(int kind, int length) {
            this.kind = kind;
            this.length = length;
        }

        boolean fits(int lane) {
            return kind == lane || kind == FAST_SPINDLE && lane == SPINDLE;
        }
    }

    /** FLOATS or DOUBLES, by their BITS; those of floats without sign. */
    private static final class Readings extends Row {
        final Lane lane;
        final long[] items;

        Readings(int kind, int length) {
            super(kind, length);
            this.lane = laneOf(kind);
            this.items = new long[length];
        }

        double number(int i) {
            return lane.number(items[i]);
        }

        /** False if it is NONE: then the item stays. */
        boolean leave(int i, long by) {
            long left = lane.left(items[i], by);
            if (left == NO_NUMBER) {
                return false;
            }
            items[i] = left;
            return true;
        }
    }

    private static final class Spindle extends Row {
        final Wheel[] places;

        Spindle(int kind, int length) {
            super(kind, length);
            this.places = new Wheel[length];
        }

        boolean bears(Wheel wheel) {
            return kind != FAST_SPINDLE || wheel == null || wheel instanceof Ratchet;
        }
    }

    private static class Wheel {
        final int teeth;
        /** By its BITS, as what is left is reckoned on them. */
        long angle;

        Wheel(int teeth) {
            this.teeth = teeth;
        }

        double angleAnd(double x) {
            return Lane.DOUBLE.number(angle) + x;
        }

        /** False if it stays. The x is not endless. */
        boolean turnBy(double x) {
            angle = Lane.DOUBLE.left(Lane.DOUBLE.bitsOf(angleAnd(x)), Lane.DOUBLE.bitsOf(teeth));
            return true;
        }
    }

    private static final class Ratchet extends Wheel {
        long clicks;

        Ratchet(int teeth) {
            super(teeth);
        }

        @Override
        boolean turnBy(double x) {
            if (x < 0.0) {
                return false;
            }
            clicks += (long) (angleAnd(x) / teeth);
            return super.turnBy(x);
        }
    }

    /**
     * How a float or a double lies in its BITS: a sign, a power, a fraction.
     *
     * <p>A number's size (its BITS without the sign) stands for mantissa * 2^(power - unit), and a
     * greater number has the greater size.
     */
    private enum Lane {
        FLOAT(23, 127),
        DOUBLE(52, 1023);

        private final int fraction;
        private final int greatestPower;
        /** The power at which the mantissa itself is the number. */
        private final int unit;
        /** The mantissa's highest bit, which the BITS leave out but for the powers below 1. */
        private final long hidden;
        private final long endless;
        private final long sign;

        Lane(int fraction, int bias) {
            this.fraction = fraction;
            this.greatestPower = 2 * bias;
            this.unit = bias + fraction;
            this.hidden = 1L << fraction;
            this.endless = (2L * bias + 1L) << fraction;
            this.sign = this.endless + this.hidden;
        }

        long trimmed(long bits) {
            return bits & (sign | (sign - 1L));
        }

        boolean isNumber(long bits) {
            return sizeOf(bits) <= endless;
        }

        boolean isEndless(long bits) {
            return sizeOf(bits) == endless;
        }

        private long sizeOf(long bits) {
            return bits & (sign - 1L);
        }

        private long mantissa(long size) {
            return size < hidden ? size : size & (hidden - 1L) | hidden;
        }

        private int power(long size) {
            return size < hidden ? 1 : (int) (size >>> fraction);
        }

        /** The hidden bit of the mantissa adds the one that is taken from the power. */
        private long joined(long mantissa, int power) {
            return ((long) (power - 1) << fraction) + mantissa;
        }

        /** WHAT IS LEFT of a by b, or NO_NUMBER if it is NONE. */
        long left(long a, long b) {
            long size = sizeOf(a);
            long round = sizeOf(b);
            if (size == endless || round == 0L) {
                return NO_NUMBER;
            }
            if (size < round) {
                return a;
            }
            long rest = restOf(mantissa(size), mantissa(round), power(size) - power(round));
            return a & sign | sizeOfRest(rest, power(round));
        }

        /** What a * 2^doublings leaves by b, ten doublings a step: a long has no room for more. */
        private static long restOf(long a, long b, int doublings) {
            if (b == 0L) {
                return 0L;
            }
            long rest = a % b;
            for (int todo = doublings; todo > 0 && rest != 0L; todo -= 10) {
                rest = (rest << Math.min(todo, 10)) % b;
            }
            return rest;
        }

        private long sizeOfRest(long rest, int power) {
            if (rest == 0L) {
                return 0L;
            }
            long mantissa = rest;
            int lower = power;
            while (lower > 1 && mantissa < hidden) {
                mantissa <<= 1;
                lower--;
            }
            return joined(mantissa, lower);
        }

        /** Every step is exact: none goes below the lowest bit of a double. */
        double number(long bits) {
            long size = sizeOf(bits);
            // 2^1024 runs over: that is how to come to an endless double here
            double x = size == endless ? scaled(1.0, 1024) : scaled(mantissa(size), power(size) - unit);
            return (bits & sign) == 0L ? x : -x;
        }

        private static double scaled(double x, int doublings) {
            double far = 4294967296.0;
            double y = x;
            int todo = doublings;
            for (; todo >= 32; todo -= 32) {
                y *= far;
            }
            for (; todo > 0; todo--) {
                y *= 2.0;
            }
            for (; todo <= -32; todo += 32) {
                y /= far;
            }
            for (; todo < 0; todo++) {
                y /= 2.0;
            }
            return y;
        }

        /** BITS of a double, by the machine's cast to this lane. */
        long bitsOf(double x) {
            double y = this == FLOAT ? (float) x : x;
            // only a division tells -0.0 from 0.0
            boolean below = y < 0.0 || y == 0.0 && 1.0 / y < 0.0;
            long size = sizeOfNumber(y < 0.0 ? -y : y);
            return below ? size | sign : size;
        }

        private long sizeOfNumber(double x) {
            if (x == 0.0) {
                return 0L;
            }
            if (x > 1.7976931348623157E308) {
                return endless;
            }
            double far = 4294967296.0;
            double lowest = hidden;
            double y = x;
            int power = unit;
            for (; power <= greatestPower - 32 && y >= lowest * far; power += 32) {
                y /= far;
            }
            for (; power < greatestPower && y >= lowest * 2.0; power++) {
                y /= 2.0;
            }
            for (; power > 32 && y * far < lowest; power -= 32) {
                y *= far;
            }
            for (; power > 1 && y < lowest; power--) {
                y *= 2.0;
            }
            return joined((long) y, power);
        }

        /** From v straight to the lane, if how is 0: over a double, a float would be rounded twice. */
        long bitsOfWhole(long v, int how) {
            switch (how) {
                case 1:
                    return bitsOf((int) v);
                case 2:
                    return bitsOf((float) v);
                case 3:
                    return bitsOf((double) v);
                default:
                    return this == FLOAT ? bitsOf((float) v) : bitsOf((double) v);
            }
        }
    }
}
