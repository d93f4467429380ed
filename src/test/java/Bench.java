import java.lang.reflect.InvocationTargetException;
import java.lang.reflect.Method;
import java.util.ArrayList;
import java.util.Comparator;
import java.util.List;

/** What the tests of the document's words share: rows and wheels to begin with, and how to look at them. */
abstract class Bench {
    static final int BAD = -1, NULL = -11, CAST = -12, INDEX = -13, STORE = -14, NONE = -15, SIZE = -16;
    static final int F = 0, D = 1, SPINDLE = 2, FAST = 3;
    static final int WHEEL = 0, RATCHET = 1;
    static final int MIN = Integer.MIN_VALUE, MAX = Integer.MAX_VALUE;
    static final double ENDLESS = Double.POSITIVE_INFINITY;
    static final long[] NO_DOUBLES = {
        0x7ff0000000000001L, 0x7ff8000000000000L, Long.MAX_VALUE, 0xfff0000000000001L, 0xfff8000000000000L, -1L
    };
    static final long[] NO_FLOATS = {
        0x7f800001L, 0x7fc00000L, 0x7fffffffL, 0xff800001L, 0xffc00000L, 0xffffffffL, -1L, (int) 0xff800001L, 0x123456787fc00000L
    };
    static final int[] NO_SLOTS = {-1, 8, MIN, MAX};
    static final int[] NO_LANES = {-1, 2, 3, MIN, MAX};
    /** A SLOT that holds nothing in all that is made here. */
    static final int EMPTY = 7;

    private static final String[] CALLS = {
        "", "a new object", "row", "hold", "same", "size", "put", "get", "rest", "wind", "as", "whole", "move", "failed",
        "wheel", "lay", "turn", "train", "angle", "clicks", "count"
    };

    static final Due due = new Due();

    /** Runs each method of a class that says its sentence; one that throws does not keep the others back. */
    static void runAll(Class<?> tests) {
        List<Method> all = new ArrayList<>();
        for (Method method : tests.getDeclaredMethods()) {
            if (method.isAnnotationPresent(Says.class)) {
                all.add(method);
            }
        }
        all.sort(Comparator.comparingInt((Method m) -> m.getAnnotation(Says.class).promise()).thenComparing(Method::getName));
        for (Method method : all) {
            run(method);
        }
        System.out.println(all.size() + " tests of a sentence each");
        due.end();
    }

    private static void run(Method method) {
        Says says = method.getAnnotation(Says.class);
        due.part("promise " + says.promise() + ", " + CALLS[says.promise()] + ", \"" + says.text() + "\" (" + method.getName() + ")");
        int before = due.calls();
        try {
            method.setAccessible(true);
            method.invoke(null);
        } catch (InvocationTargetException e) {
            due.fault("threw " + e.getCause());
        } catch (IllegalAccessException e) {
            due.fault("could not be run: " + e);
        }
        if (due.calls() == before) {
            due.fault("asked for nothing");
        }
    }

    static long d(double x) {
        return Double.doubleToLongBits(x);
    }

    static long f(double x) {
        return Integer.toUnsignedLong(Float.floatToIntBits((float) x));
    }

    static long bits(int lane, double x) {
        return lane == F ? f(x) : d(x);
    }

    static long[] noNumbers(int lane) {
        return lane == F ? NO_FLOATS : NO_DOUBLES;
    }

    /** SLOT 0 FLOATS, 1 DOUBLES, 2 a SPINDLE, 3 a FAST SPINDLE, of 3 items each; the others hold nothing. */
    static DialTrain rows() {
        DialTrain x = new DialTrain();
        for (int kind = 0; kind < 4; kind++) {
            due.is("row(kind, kind, 3)", x.row(kind, kind, 3), 1);
        }
        return x;
    }

    /** As rows(); WHEEL 0 of 10 teeth in place 0 of SLOT 2, RATCHET 1 of 10 in 1 of it and in 0 of SLOT 3. */
    static DialTrain spindles() {
        DialTrain x = rows();
        due.is("wheel(0, 0, 10)", x.wheel(0, WHEEL, 10), 1);
        due.is("wheel(1, 1, 10)", x.wheel(1, RATCHET, 10), 1);
        due.is("lay(2, 0, 0)", x.lay(2, 0, 0), 1);
        due.is("lay(2, 1, 1)", x.lay(2, 1, 1), 1);
        due.is("lay(3, 0, 1)", x.lay(3, 0, 1), 1);
        return x;
    }

    /** A SPINDLE of one place in SLOT 0, with a WHEEL or a RATCHET in it. */
    static DialTrain oneWheel(int kind, int teeth) {
        DialTrain x = new DialTrain();
        due.is("row(0, 2, 1)", x.row(0, SPINDLE, 1), 1);
        due.is("wheel of " + teeth + " teeth", x.wheel(0, kind, teeth), 1);
        due.is("lay(0, 0, 0)", x.lay(0, 0, 0), 1);
        return x;
    }

    /** Readings of a lane, in the SLOT of the lane's number. */
    static DialTrain readings(int lane, double... all) {
        DialTrain x = new DialTrain();
        due.is("row of " + all.length, x.row(lane, lane, all.length), 1);
        for (int i = 0; i < all.length; i++) {
            due.is("put of " + all[i], x.put(lane, lane, i, bits(lane, all[i])), 1);
        }
        return x;
    }

    static void item(DialTrain x, int slot, int lane, int i, double want) {
        due.is("get(" + slot + ", " + lane + ", " + i + ")", x.get(slot, lane, i), bits(lane, want));
        due.is("failed()", x.failed(), 0);
    }

    static void items(DialTrain x, int slot, int lane, double... want) {
        due.is("size(" + slot + ", " + lane + ")", x.size(slot, lane), want.length);
        for (int i = 0; i < want.length; i++) {
            item(x, slot, lane, i, want[i]);
        }
    }

    static void turned(DialTrain x, int slot, int i, double want) {
        due.is("angle(" + slot + ", " + i + ")", x.angle(slot, i), d(want));
        due.is("failed()", x.failed(), 0);
    }

    static void clicked(DialTrain x, int slot, int i, long want) {
        due.is("clicks(" + slot + ", " + i + ")", x.clicks(slot, i), want);
        due.is("failed()", x.failed(), 0);
    }

    static void refusedGet(DialTrain x, int slot, int lane, int i, int want) {
        due.is("get(" + slot + ", " + lane + ", " + i + ")", x.get(slot, lane, i), 0);
        due.is("failed()", x.failed(), want);
    }

    static void refusedAs(DialTrain x, int slot, int lane, int i, int how, int want) {
        due.is("as(" + slot + ", " + lane + ", " + i + ", " + how + ")", x.as(slot, lane, i, how), 0);
        due.is("failed()", x.failed(), want);
    }

    static void refusedAngle(DialTrain x, int slot, int i, int want) {
        due.is("angle(" + slot + ", " + i + ")", x.angle(slot, i), 0);
        due.is("failed()", x.failed(), want);
    }

    static void refusedClicks(DialTrain x, int slot, int i, int want) {
        due.is("clicks(" + slot + ", " + i + ")", x.clicks(slot, i), 0);
        due.is("failed()", x.failed(), want);
    }

    /** Refusals NULL, CAST, INDEX, STORE, NONE up to now. */
    static void refusals(DialTrain x, int... want) {
        for (int k = 0; k < 5; k++) {
            due.is("count(" + (k + 2) + ")", x.count(k + 2), want[k]);
        }
    }
}
