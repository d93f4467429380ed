/**
 * The document done the machine's own way: real float[], double[], Wheel[] and Ratchet[], its %, its
 * casts, and the exceptions that it throws. MachineTest holds DialTrain against it.
 */
final class MachineDials {
    private static final int BAD = -1, NULL = -11, CAST = -12, INDEX = -13, STORE = -14, NONE = -15, SIZE = -16;

    static class Wheel {
        final int teeth;
        double angle;

        Wheel(int teeth) {
            this.teeth = teeth;
        }

        int turnedBy(double x) {
            if (Double.isInfinite(x)) {
                throw new ArithmeticException();
            }
            angle = (angle + x) % teeth;
            return 1;
        }
    }

    static final class Ratchet extends Wheel {
        long clicks;

        Ratchet(int teeth) {
            super(teeth);
        }

        @Override
        int turnedBy(double x) {
            if (x < 0.0 && !Double.isInfinite(x)) {
                return 0;
            }
            double s = angle + x;
            int answer = super.turnedBy(x);
            clicks += (long) (s / teeth);
            return answer;
        }
    }

    /** One call; the machine's exceptions come out of it. */
    private interface Call {
        long run();
    }

    final Object[] slots = new Object[8];
    final Wheel[] wheels = new Wheel[6];
    final int[] told = new int[17];
    int made = 0;
    int failed = 0;

    private long refuse(int refusal) {
        told[-refusal]++;
        return refusal;
    }

    private long answer(boolean bad, Call call) {
        if (bad) {
            return refuse(BAD);
        }
        try {
            return call.run();
        } catch (NullPointerException e) {
            return refuse(NULL);
        } catch (ClassCastException e) {
            return refuse(CAST);
        } catch (ArrayIndexOutOfBoundsException e) {
            return refuse(INDEX);
        } catch (ArrayStoreException e) {
            return refuse(STORE);
        } catch (ArithmeticException e) {
            return refuse(NONE);
        } catch (NegativeArraySizeException e) {
            return refuse(SIZE);
        }
    }

    /** As answer(), but 0 is told for a refusal; an answer below 0 of the call itself is none. */
    private long zeroOr(boolean bad, Call call) {
        long[] got = new long[1];
        long how = answer(bad, () -> {
            got[0] = call.run();
            return 0;
        });
        failed = (int) how;
        return got[0];
    }

    private static boolean outside(int x, int low, int high) {
        return x < low || x > high;
    }

    private static boolean noSlot(int slot) {
        return outside(slot, 0, 7);
    }

    private static boolean noLane(int lane) {
        return outside(lane, 0, 1);
    }

    private static boolean noNumber(int lane, long bits) {
        return noLane(lane)
                || (lane == 0 ? Float.isNaN(Float.intBitsToFloat((int) bits)) : Double.isNaN(Double.longBitsToDouble(bits)));
    }

    private static void look(Object o) {
        if (o == null) {
            throw new NullPointerException();
        }
    }

    private float[] floats(int slot) {
        look(slots[slot]);
        return (float[]) slots[slot];
    }

    private double[] doubles(int slot) {
        look(slots[slot]);
        return (double[]) slots[slot];
    }

    private Wheel[] spindle(int slot) {
        look(slots[slot]);
        return (Wheel[]) slots[slot];
    }

    private static float left(float a, float b) {
        if (Float.isNaN(a % b)) {
            throw new ArithmeticException();
        }
        return a % b;
    }

    private static double left(double a, double b) {
        if (Double.isNaN(a % b)) {
            throw new ArithmeticException();
        }
        return a % b;
    }

    private void leave(int slot, int lane, int i, long by) {
        if (lane == 0) {
            float[] f = floats(slot);
            f[i] = left(f[i], Float.intBitsToFloat((int) by));
        } else {
            double[] d = doubles(slot);
            d[i] = left(d[i], Double.longBitsToDouble(by));
        }
    }

    long row(int slot, int kind, int n) {
        return answer(noSlot(slot) || outside(kind, 0, 3) || n > 24, () -> {
            switch (kind) {
                case 0: slots[slot] = new float[n]; break;
                case 1: slots[slot] = new double[n]; break;
                case 2: slots[slot] = new Wheel[n]; break;
                default: slots[slot] = new Ratchet[n];
            }
            return 1;
        });
    }

    long hold(int from, int to) {
        return answer(outside(from, -1, 7) || noSlot(to), () -> {
            slots[to] = from < 0 ? null : slots[from];
            return 1;
        });
    }

    long same(int slot, int other) {
        return answer(noSlot(slot) || noSlot(other), () -> slots[slot] == slots[other] ? 1 : 0);
    }

    long size(int slot, int lane) {
        return answer(noSlot(slot) || outside(lane, 0, 3), () -> {
            look(slots[slot]);
            switch (lane) {
                case 0: return floats(slot).length;
                case 1: return doubles(slot).length;
                case 2: return spindle(slot).length;
                default: return ((Ratchet[]) slots[slot]).length;
            }
        });
    }

    long put(int slot, int lane, int i, long bits) {
        return answer(noSlot(slot) || noNumber(lane, bits), () -> {
            if (lane == 0) {
                floats(slot)[i] = Float.intBitsToFloat((int) bits);
            } else {
                doubles(slot)[i] = Double.longBitsToDouble(bits);
            }
            return 1;
        });
    }

    long get(int slot, int lane, int i) {
        return zeroOr(noSlot(slot) || noLane(lane), () -> lane == 0
                ? Integer.toUnsignedLong(Float.floatToIntBits(floats(slot)[i]))
                : Double.doubleToLongBits(doubles(slot)[i]));
    }

    long rest(int slot, int lane, int i, long by) {
        return answer(noSlot(slot) || noNumber(lane, by), () -> {
            leave(slot, lane, i, by);
            return 1;
        });
    }

    long wind(int slot, int lane, int i, long by) {
        return answer(noSlot(slot) || noNumber(lane, by), () -> {
            int n = lane == 0 ? floats(slot).length : doubles(slot).length;
            if (i < 0 || i > n) {
                throw new ArrayIndexOutOfBoundsException();
            }
            for (int at = i; at < n; at++) {
                try {
                    leave(slot, lane, at, by);
                } catch (ArithmeticException e) {
                    refuse(NONE);
                    return at - i;
                }
            }
            return n - i;
        });
    }

    private static long cast(float x, int how) {
        switch (how) {
            case 0: return (int) x;
            case 1: return (long) x;
            case 2: return (byte) x;
            case 3: return (short) x;
            case 4: return (char) x;
            case 5: return Integer.toUnsignedLong(Float.floatToIntBits(x));
            default: return Double.doubleToLongBits((double) x);
        }
    }

    private static long cast(double x, int how) {
        switch (how) {
            case 0: return (int) x;
            case 1: return (long) x;
            case 2: return (byte) x;
            case 3: return (short) x;
            case 4: return (char) x;
            case 5: return Integer.toUnsignedLong(Float.floatToIntBits((float) x));
            default: return Double.doubleToLongBits(x);
        }
    }

    long as(int slot, int lane, int i, int how) {
        return zeroOr(noSlot(slot) || noLane(lane) || outside(how, 0, 6),
                () -> lane == 0 ? cast(floats(slot)[i], how) : cast(doubles(slot)[i], how));
    }

    private static float wholeFloat(long v, int how) {
        switch (how) {
            case 0: return (float) v;
            case 1: return (float) (int) v;
            case 2: return (float) v;
            default: return (float) (double) v;
        }
    }

    private static double wholeDouble(long v, int how) {
        switch (how) {
            case 0: return (double) v;
            case 1: return (double) (int) v;
            case 2: return (double) (float) v;
            default: return (double) v;
        }
    }

    long whole(int slot, int lane, int i, long v, int how) {
        return answer(noSlot(slot) || noLane(lane) || outside(how, 0, 3), () -> {
            if (lane == 0) {
                floats(slot)[i] = wholeFloat(v, how);
            } else {
                doubles(slot)[i] = wholeDouble(v, how);
            }
            return 1;
        });
    }

    long move(int slot, int lane, int i, int to, int toLane, int j) {
        return answer(noSlot(slot) || noLane(lane) || noSlot(to) || noLane(toLane), () -> {
            if (lane == 0) {
                float x = floats(slot)[i];
                if (toLane == 0) {
                    floats(to)[j] = x;
                } else {
                    doubles(to)[j] = x;
                }
            } else {
                double x = doubles(slot)[i];
                if (toLane == 0) {
                    floats(to)[j] = (float) x;
                } else {
                    doubles(to)[j] = x;
                }
            }
            return 1;
        });
    }

    long failed() {
        return failed;
    }

    long wheel(int k, int kind, int teeth) {
        return answer(outside(k, 0, 5) || outside(kind, 0, 1) || outside(teeth, 1, 1000000), () -> {
            wheels[k] = kind == 0 ? new Wheel(teeth) : new Ratchet(teeth);
            made++;
            return 1;
        });
    }

    long lay(int slot, int i, int k) {
        return answer(noSlot(slot) || outside(k, -1, 5), () -> {
            spindle(slot)[i] = k < 0 ? null : wheels[k];
            return 1;
        });
    }

    long turn(int slot, int i, long by) {
        return answer(noSlot(slot) || noNumber(1, by), () -> spindle(slot)[i].turnedBy(Double.longBitsToDouble(by)));
    }

    long train(int slot, int i, int from, int j) {
        return answer(noSlot(slot) || noSlot(from), () -> {
            double x = doubles(from)[j];
            Wheel[] all = spindle(slot);
            int n = 0;
            for (int at = i; at < all.length && all[at] != null; at++) {
                try {
                    all[at].turnedBy(x);
                } catch (ArithmeticException e) {
                    refuse(NONE);
                    break;
                }
                n++;
            }
            return n;
        });
    }

    long angle(int slot, int i) {
        return zeroOr(noSlot(slot), () -> Double.doubleToLongBits(spindle(slot)[i].angle));
    }

    long clicks(int slot, int i) {
        return zeroOr(noSlot(slot), () -> ((Ratchet) spindle(slot)[i]).clicks);
    }

    long count(int what) {
        return answer(outside(what, 0, 6), () -> {
            if (what == 0) {
                int n = 0;
                for (Object o : slots) {
                    n += o == null ? 0 : 1;
                }
                return n;
            }
            return what == 1 ? made : told[what + 9];
        });
    }
}
