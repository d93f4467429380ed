import java.util.Random;

/** Long runs of drawn calls, each answer held against the machine's own (MachineDials). */
public final class MachineTest {
    private static final int RUNS = 6000;
    private static final int CALLS = 511;

    private static final double[] EDGES = {
        0.0, -0.0, 1.0, -1.0, 0.5, 2.0, 3.0, -5.75, 10.0, 0.1, 1e6, 127.0, 128.0, -129.0, 32768.0, 65536.5, 65535.0,
        2147483647.0, 2147483648.0, -2147483649.0, 4294967296.0, 9.223372036854775E18, 9.223372036854776E18,
        -9.223372036854776E18, 1e19, 16777217.0, 9007199254740993.0, 1e-10, 1e300, -1e300,
        Float.MIN_VALUE, Float.MIN_NORMAL, Float.MAX_VALUE, -Float.MAX_VALUE, Float.MIN_VALUE / 2.0, Float.MIN_VALUE * 0.75,
        3.4028235677973366E38, 3.4028235677973362E38, Float.MIN_NORMAL - Float.MIN_VALUE,
        Double.MIN_VALUE, -Double.MIN_VALUE, Double.MIN_NORMAL, Double.MIN_NORMAL - Double.MIN_VALUE,
        Double.MAX_VALUE, -Double.MAX_VALUE, Double.POSITIVE_INFINITY, Double.NEGATIVE_INFINITY, Double.NaN
    };

    private final Due due = new Due();
    private Random draw;
    private DialTrain x;
    private MachineDials m;
    private int index;

    public static void main(String[] args) {
        MachineTest test = new MachineTest();
        for (int run = 0; run < RUNS && !test.due.anyWrong(); run++) {
            test.run(run);
        }
        test.due.end();
    }

    private void run(int seed) {
        due.part("seed " + seed);
        draw = new Random(seed);
        x = new DialTrain();
        m = new MachineDials();
        for (int slot = 0; slot < 8; slot++) {
            if (draw.nextInt(5) != 0) {
                int n = draw.nextInt(25);
                int kind = slot % 4;
                due.is("row", x.row(slot, kind, n), m.row(slot, kind, n));
            }
        }
        for (index = 8; index < CALLS && !due.anyWrong(); index++) {
            call();
        }
    }

    /** Mostly from 0 to high; sometimes beyond. */
    private int about(int high) {
        switch (draw.nextInt(60)) {
            case 0: return -1;
            case 1: return high + 1;
            case 2: return draw.nextInt();
            default: return draw.nextInt(high + 1);
        }
    }

    private int slot() {
        return about(7);
    }

    private int laneFor(int slot) {
        boolean known = slot >= 0 && slot < 8 && draw.nextInt(10) != 0;
        return known && m.slots[slot] instanceof float[] ? 0 : known && m.slots[slot] instanceof double[] ? 1 : about(1);
    }

    private int place(int slot) {
        Object row = slot >= 0 && slot < 8 ? m.slots[slot] : null;
        int n = row == null ? 3 : java.lang.reflect.Array.getLength(row);
        return about(Math.max(0, n - 1));
    }

    private double number() {
        switch (draw.nextInt(6)) {
            case 0: return EDGES[draw.nextInt(EDGES.length)];
            case 1: return draw.nextGaussian() * 100.0;
            case 2: return draw.nextInt(2001) - 1000;
            case 3: return draw.nextLong() * Math.scalb(1.0, -draw.nextInt(70));
            case 4: return Double.longBitsToDouble(draw.nextLong());
            default: return Math.scalb(draw.nextDouble() - 0.5, draw.nextInt(300) - 150);
        }
    }

    private long bits(int lane) {
        if (lane == 0) {
            long low = draw.nextInt(3) == 0 ? draw.nextInt() : Float.floatToRawIntBits((float) number());
            return draw.nextInt(4) == 0 ? low & 0xffffffffL : draw.nextInt(4) == 0 ? low ^ ((long) draw.nextInt() << 32) : low;
        }
        return Double.doubleToRawLongBits(number());
    }

    private long whole() {
        switch (draw.nextInt(5)) {
            case 0: return draw.nextLong();
            case 3: return halfway(24 + draw.nextInt(38));
            case 1: return (1L << draw.nextInt(64)) + draw.nextInt(5) - 2;
            case 2: return draw.nextLong() >> draw.nextInt(64);
            default: return (long) number();
        }
    }

    /** Close to the middle of two floats, where a cast by way of a double may go to the other one. */
    private long halfway(int high) {
        long odd = (draw.nextInt(1 << 22) * 2L + 1L) << (high - 23) >> 1;
        return (1L << high) + odd + draw.nextInt(3) - 1;
    }

    private int teeth() {
        switch (draw.nextInt(5)) {
            case 0: return draw.nextInt(3);
            case 1: return 999999 + draw.nextInt(3);
            case 2: return draw.nextInt();
            default: return 1 + draw.nextInt(1000);
        }
    }

    private void call() {
        switch (draw.nextInt(32)) {
            case 0: rows(); break;
            case 1: wheels(); break;
            case 2: case 3: case 4: lays(); break;
            case 5: case 6: case 7: turns(); break;
            case 8: case 9: trains(); break;
            case 10: case 11: case 12: wheelReadings(); break;
            case 13: case 14: case 15: case 16: puts(); break;
            case 17: case 18: case 19: rests(); break;
            case 20: case 21: winds(); break;
            case 22: case 23: casts(); break;
            case 24: case 25: wholes(); break;
            case 26: case 27: moves(); break;
            case 28: rowAnswers(); break;
            case 29: counts(); break;
            default: gets();
        }
    }

    private void told(String call, long got, long want) {
        due.is(index + " " + call, got, want);
    }

    private void rows() {
        int s = slot(), t = slot(), kind = about(3), n = about(24);
        if (draw.nextInt(3) != 0) {
            told("row(" + s + ", " + kind + ", " + n + ")", x.row(s, kind, n), m.row(s, kind, n));
        } else {
            int from = draw.nextInt(8) == 0 ? -1 : s;
            told("hold(" + from + ", " + t + ")", x.hold(from, t), m.hold(from, t));
        }
    }

    private void rowAnswers() {
        int s = slot(), t = slot(), lane = about(3);
        told("same(" + s + ", " + t + ")", x.same(s, t), m.same(s, t));
        told("size(" + s + ", " + lane + ")", x.size(s, lane), m.size(s, lane));
        index++;
    }

    private void puts() {
        int s = slot(), lane = laneFor(s), i = place(s);
        long b = bits(lane);
        told("put(" + s + ", " + lane + ", " + i + ", " + b + ")", x.put(s, lane, i, b), m.put(s, lane, i, b));
    }

    private void gets() {
        int s = slot(), lane = laneFor(s), i = place(s);
        told("get(" + s + ", " + lane + ", " + i + ")", x.get(s, lane, i), m.get(s, lane, i));
        told("failed() after get", x.failed(), m.failed());
        index++;
    }

    private void rests() {
        int s = slot(), lane = laneFor(s), i = place(s);
        long b = bits(lane);
        told("rest(" + s + ", " + lane + ", " + i + ", " + b + ")", x.rest(s, lane, i, b), m.rest(s, lane, i, b));
        told("get after rest", x.get(s, lane, i), m.get(s, lane, i));
        index++;
    }

    private void winds() {
        int s = slot(), lane = laneFor(s), i = place(s);
        if (draw.nextInt(10) == 0) {
            i++;
        }
        long b = bits(lane);
        told("wind(" + s + ", " + lane + ", " + i + ", " + b + ")", x.wind(s, lane, i, b), m.wind(s, lane, i, b));
        told("get after wind", x.get(s, lane, i), m.get(s, lane, i));
        index++;
    }

    private void casts() {
        int s = slot(), lane = laneFor(s), i = place(s), how = about(6);
        told("as(" + s + ", " + lane + ", " + i + ", " + how + ")", x.as(s, lane, i, how), m.as(s, lane, i, how));
        told("failed() after as", x.failed(), m.failed());
        index++;
    }

    private void wholes() {
        int s = slot(), lane = laneFor(s), i = place(s), how = about(3);
        long v = whole();
        told("whole(" + s + ", " + lane + ", " + i + ", " + v + ", " + how + ")",
                x.whole(s, lane, i, v, how), m.whole(s, lane, i, v, how));
        told("get after whole", x.get(s, lane, i), m.get(s, lane, i));
        index++;
    }

    private void moves() {
        int s = slot(), lane = laneFor(s), i = place(s), t = slot(), toLane = laneFor(t), j = place(t);
        told("move(" + s + ", " + lane + ", " + i + ", " + t + ", " + toLane + ", " + j + ")",
                x.move(s, lane, i, t, toLane, j), m.move(s, lane, i, t, toLane, j));
        told("get after move", x.get(t, toLane, j), m.get(t, toLane, j));
        index++;
    }

    private void wheels() {
        int k = about(5), kind = about(1), teeth = teeth();
        told("wheel(" + k + ", " + kind + ", " + teeth + ")", x.wheel(k, kind, teeth), m.wheel(k, kind, teeth));
    }

    /** Spindles are drawn more often than by chance: else most calls would be CAST. */
    private int spindleSlot() {
        int s = slot();
        for (int tries = 0; tries < 4 && s >= 0 && s < 8 && !(m.slots[s] instanceof MachineDials.Wheel[]); tries++) {
            s = slot();
        }
        return s;
    }

    private void lays() {
        int s = spindleSlot(), i = place(s), k = about(5);
        told("lay(" + s + ", " + i + ", " + k + ")", x.lay(s, i, k), m.lay(s, i, k));
    }

    private void turns() {
        int s = spindleSlot(), i = place(s);
        long b = bits(1);
        told("turn(" + s + ", " + i + ", " + b + ")", x.turn(s, i, b), m.turn(s, i, b));
        told("angle after turn", x.angle(s, i), m.angle(s, i));
        index++;
    }

    private void trains() {
        int s = spindleSlot(), i = draw.nextInt(2) == 0 ? 0 : place(s), from = slot();
        int j = place(from);
        told("train(" + s + ", " + i + ", " + from + ", " + j + ")", x.train(s, i, from, j), m.train(s, i, from, j));
    }

    private void wheelReadings() {
        int s = spindleSlot(), i = place(s);
        if (draw.nextBoolean()) {
            told("angle(" + s + ", " + i + ")", x.angle(s, i), m.angle(s, i));
        } else {
            told("clicks(" + s + ", " + i + ")", x.clicks(s, i), m.clicks(s, i));
        }
        told("failed() after it", x.failed(), m.failed());
        index++;
    }

    private void counts() {
        int what = about(6);
        told("count(" + what + ")", x.count(what), m.count(what));
    }
}
