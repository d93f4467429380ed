/** Each promise of the document by itself: ordinary calls, the edges it names, wrong inputs. */
public final class PromisesTest extends Bench {
    public static void main(String[] args) {
        promise1();
        promise2();
        promise3();
        promise4();
        promise5();
        promise6();
        promise7();
        promise8();
        promise9();
        promise10();
        promise11();
        promise12();
        promise13();
        promise14();
        promise15();
        promise16();
        promise17();
        promise18();
        promise19();
        promise20();
        due.end();
    }

    private static void promise1() {
        due.part("promise 1, a new object");
        DialTrain x = new DialTrain();
        for (int slot = 0; slot < 8; slot++) {
            due.is("same(0, slot)", x.same(0, slot), 1);
            due.is("size(slot, 0)", x.size(slot, F), NULL);
        }
        due.is("failed()", x.failed(), 0);
        DialTrain y = new DialTrain();
        for (int what = 0; what < 7; what++) {
            due.is("count(" + what + ")", y.count(what), 0);
        }
        y.row(0, FAST, 6);
        for (int k = 0; k < 6; k++) {
            due.is("lay of a WHEEL that is not there", y.lay(0, k, k), 1);
            refusedAngle(y, 0, k, NULL);
        }
        x.row(0, F, 1);
        due.is("another object has its own slots", new DialTrain().count(0), 0);
    }

    private static void promise2() {
        due.part("promise 2, row");
        DialTrain x = new DialTrain();
        for (int kind = 0; kind < 4; kind++) {
            for (int n = 0; n <= 24; n += 12) {
                due.is("row", x.row(7 - kind, kind, n), 1);
                due.is("size", x.size(7 - kind, kind), n);
            }
        }
        for (int i = 0; i < 24; i++) {
            item(x, 7, F, i, 0.0);
            item(x, 6, D, i, 0.0);
            refusedAngle(x, 5, i, NULL);
            refusedAngle(x, 4, i, NULL);
        }
        x = rows();
        x.put(0, F, 0, f(1.0));
        x.hold(0, 5);
        for (int no : NO_SLOTS) {
            due.is("row of no slot", x.row(no, F, 1), BAD);
            due.is("row of no slot, n below 0", x.row(no, F, -1), BAD);
        }
        for (int kind : new int[] {-1, 4, MIN, MAX}) {
            due.is("row of no kind", x.row(0, kind, 1), BAD);
            due.is("row of no kind, n below 0", x.row(0, kind, -1), BAD);
        }
        for (int kind = 0; kind < 4; kind++) {
            due.is("row of 25", x.row(0, kind, 25), BAD);
            due.is("row of MAX", x.row(0, kind, MAX), BAD);
            due.is("row of -1", x.row(0, kind, -1), SIZE);
            due.is("row of MIN", x.row(0, kind, MIN), SIZE);
        }
        item(x, 0, F, 0, 1.0);
        due.is("same(0, 5)", x.same(0, 5), 1);
        due.is("row(0, 0, 3)", x.row(0, F, 3), 1);
        item(x, 0, F, 0, 0.0);
        item(x, 5, F, 0, 1.0);
        due.is("same(0, 5) after a new row", x.same(0, 5), 0);
        refusals(x, 0, 0, 0, 0, 0);
    }

    private static void promise3() {
        due.part("promise 3, hold");
        DialTrain x = rows();
        due.is("hold(1, 7)", x.hold(1, 7), 1);
        x.put(7, D, 2, d(4.5));
        item(x, 1, D, 2, 4.5);
        due.is("hold(1, 1)", x.hold(1, 1), 1);
        item(x, 1, D, 2, 4.5);
        for (int no : new int[] {-2, 8, MIN, MAX}) {
            due.is("hold from no slot", x.hold(no, 1), BAD);
        }
        for (int no : NO_SLOTS) {
            due.is("hold to no slot", x.hold(0, no), BAD);
            due.is("hold of nothing to no slot", x.hold(-1, no), BAD);
        }
        item(x, 1, D, 2, 4.5);
        due.is("hold(-1, 1)", x.hold(-1, 1), 1);
        due.is("size(1, 1)", x.size(1, D), NULL);
        item(x, 7, D, 2, 4.5);
        due.is("hold of what holds nothing", x.hold(1, 7), 1);
        due.is("size(7, 1)", x.size(7, D), NULL);
    }

    private static void promise4() {
        due.part("promise 4, same");
        DialTrain x = rows();
        x.row(4, F, 3);
        x.hold(0, 5);
        due.is("same(0, 0)", x.same(0, 0), 1);
        due.is("same(0, 5)", x.same(0, 5), 1);
        due.is("same(5, 0)", x.same(5, 0), 1);
        due.is("same(0, 4)", x.same(0, 4), 0);
        due.is("same(0, 6)", x.same(0, 6), 0);
        due.is("same(6, 0)", x.same(6, 0), 0);
        due.is("same(6, 7)", x.same(6, 7), 1);
        for (int no : NO_SLOTS) {
            due.is("same of no slot", x.same(no, 0), BAD);
            due.is("same of no other", x.same(0, no), BAD);
            due.is("same of no slots", x.same(no, no), BAD);
        }
    }

    private static void promise5() {
        due.part("promise 5, size");
        DialTrain x = new DialTrain();
        for (int kind = 0; kind < 4; kind++) {
            x.row(kind, kind, 20 + kind);
        }
        for (int kind = 0; kind < 4; kind++) {
            for (int lane = 0; lane < 4; lane++) {
                boolean fits = kind == lane || kind == FAST && lane == SPINDLE;
                due.is("size(" + kind + ", " + lane + ")", x.size(kind, lane), fits ? 20 + kind : CAST);
            }
            due.is("size of nothing", x.size(7, kind), NULL);
        }
        for (int no : NO_SLOTS) {
            due.is("size of no slot", x.size(no, F), BAD);
        }
        for (int lane : new int[] {-1, 4, MIN, MAX}) {
            due.is("size of no lane", x.size(0, lane), BAD);
            due.is("size of no lane, nothing there", x.size(7, lane), BAD);
        }
    }

    private static void promise6() {
        due.part("promise 6, put");
        DialTrain x = rows();
        double[] all = {1.5, -2.25, 0.0, -0.0, ENDLESS, -ENDLESS, Float.MIN_VALUE, Float.MIN_NORMAL, Float.MAX_VALUE};
        for (double a : all) {
            for (int lane = 0; lane < 2; lane++) {
                due.is("put of " + a, x.put(lane, lane, 2, bits(lane, a)), 1);
                item(x, lane, lane, 2, a);
            }
        }
        due.is("put of a float with sign", x.put(0, F, 0, (int) f(-3.0)), 1);
        item(x, 0, F, 0, -3.0);
        due.is("put of a float, more than 32 bits", x.put(0, F, 0, f(7.0) | 0x7ff8000100000000L), 1);
        item(x, 0, F, 0, 7.0);
        due.is("put of a double that is no float", x.put(1, D, 0, 0x7fc00000L), 1);
        due.is("get(1, 1, 0)", x.get(1, D, 0), 0x7fc00000L);
        for (long no : NO_FLOATS) {
            due.is("put of no float", x.put(0, F, 0, no), BAD);
            due.is("put of no float to nothing", x.put(7, F, 0, no), BAD);
        }
        for (long no : NO_DOUBLES) {
            due.is("put of no double", x.put(1, D, 1, no), BAD);
            due.is("put of no double, outside", x.put(1, D, 9, no), BAD);
        }
        item(x, 0, F, 0, 7.0);
        item(x, 1, D, 1, 0.0);
        for (int slot = 0; slot < 4; slot++) {
            for (int lane = 0; lane < 2; lane++) {
                due.is("put, inside", x.put(slot, lane, 0, 0), slot == lane ? 1 : CAST);
                due.is("put, outside", x.put(slot, lane, 3, 0), slot == lane ? INDEX : CAST);
                due.is("put, below", x.put(slot, lane, -1, 0), slot == lane ? INDEX : CAST);
                due.is("put to nothing", x.put(7, lane, 3, 0), NULL);
            }
        }
        for (int lane : new int[] {-1, 2, 3, MIN, MAX}) {
            due.is("put with no lane", x.put(0, lane, 0, 0), BAD);
            due.is("put with no lane to nothing", x.put(7, lane, 0, 0), BAD);
        }
        for (int no : NO_SLOTS) {
            due.is("put to no slot", x.put(no, F, 0, 0), BAD);
        }
        refusals(x, 8, 18, 4, 0, 0);
    }

    private static void promise7() {
        due.part("promise 7, get");
        DialTrain x = rows();
        x.put(0, F, 1, f(-1.0));
        x.put(1, D, 1, d(-1.0));
        due.is("get of a float below 0.0", x.get(0, F, 1), 0xbf800000L);
        due.is("get of a double below 0.0", x.get(1, D, 1), 0xbff0000000000000L);
        refusedGet(x, 0, D, 0, CAST);
        refusedGet(x, 1, F, 9, CAST);
        refusedGet(x, 2, F, 0, CAST);
        refusedGet(x, 3, D, 0, CAST);
        refusedGet(x, 4, D, 9, NULL);
        for (int i : new int[] {-1, 3, MIN, MAX}) {
            refusedGet(x, 0, F, i, INDEX);
            refusedGet(x, 1, D, i, INDEX);
        }
        for (int lane : new int[] {-1, 2, 3, MIN, MAX}) {
            refusedGet(x, 2, lane, 0, BAD);
            refusedGet(x, 7, lane, 0, BAD);
        }
        for (int no : NO_SLOTS) {
            refusedGet(x, no, F, 0, BAD);
        }
        refusals(x, 1, 4, 8, 0, 0);
    }

    private static void left(double a, double b, double want) {
        for (int lane = 0; lane < 2; lane++) {
            DialTrain x = readings(lane, 9.0, a, 9.0);
            due.is("rest of " + a + " by " + b, x.rest(lane, lane, 1, bits(lane, b)), 1);
            item(x, lane, lane, 1, want);
            item(x, lane, lane, 0, 9.0);
            item(x, lane, lane, 2, 9.0);
            refusals(x, 0, 0, 0, 0, 0);
        }
    }

    private static void noneLeft(double a, double b) {
        for (int lane = 0; lane < 2; lane++) {
            DialTrain x = readings(lane, a);
            due.is("rest of " + a + " by " + b, x.rest(lane, lane, 0, bits(lane, b)), NONE);
            item(x, lane, lane, 0, a);
            refusals(x, 0, 0, 0, 0, 1);
        }
    }

    private static void promise8() {
        due.part("promise 8, rest");
        left(7.5, 2.0, 1.5);
        left(-7.5, 2.0, -1.5);
        left(7.5, -2.0, 1.5);
        left(-7.5, -2.0, -1.5);
        left(8.0, 2.0, 0.0);
        left(-8.0, 2.0, -0.0);
        left(0.0, 3.0, 0.0);
        left(-0.0, 3.0, -0.0);
        left(1.25, 3.0, 1.25);
        left(3.0, 3.0, 0.0);
        left(5.0, ENDLESS, 5.0);
        left(-5.0, -ENDLESS, -5.0);
        left(-0.0, ENDLESS, -0.0);
        left(Float.MIN_NORMAL * 1.5, Float.MIN_NORMAL, Float.MIN_NORMAL * 0.5);
        left(Float.MIN_VALUE * 7.0, Float.MIN_VALUE * 4.0, Float.MIN_VALUE * 3.0);
        noneLeft(ENDLESS, 2.0);
        noneLeft(-ENDLESS, ENDLESS);
        noneLeft(1.0, 0.0);
        noneLeft(1.0, -0.0);
        noneLeft(0.0, 0.0);
        noneLeft(ENDLESS, 0.0);
        longRests();
        DialTrain x = rows();
        due.is("rest in nothing", x.rest(7, D, 9, 0), NULL);
        due.is("rest of no such row", x.rest(0, D, 9, 0), CAST);
        due.is("rest of a spindle", x.rest(3, F, 0, 0), CAST);
        due.is("rest outside", x.rest(1, D, 3, 0), INDEX);
        due.is("rest below", x.rest(0, F, -1, 0), INDEX);
        due.is("rest by no double", x.rest(7, D, 0, NO_DOUBLES[0]), BAD);
        due.is("rest by no float", x.rest(7, F, 0, NO_FLOATS[5]), BAD);
        due.is("rest with no lane", x.rest(7, 2, 0, 0), BAD);
        due.is("rest of no slot", x.rest(8, F, 0, 0), BAD);
        due.is("rest of no slot", x.rest(-1, F, 0, 0), BAD);
        refusals(x, 1, 2, 2, 0, 0);
    }

    /** Far apart numbers, where no quotient fits into a long. */
    private static void longRests() {
        double[] all = {Double.MAX_VALUE, 1e300, 1e22, 7.0, 0.3, 1e-300, Double.MIN_NORMAL, Double.MIN_NORMAL * 0.75, 4.9E-324 * 3, 4.9E-324};
        for (double a : all) {
            for (double b : all) {
                DialTrain x = readings(D, a);
                due.is("rest of " + a + " by " + b, x.rest(D, D, 0, d(b)), 1);
                item(x, D, D, 0, a % b);
            }
        }
        float[] small = {Float.MAX_VALUE, 1e22f, 7.0f, 0.3f, 1e-30f, Float.MIN_NORMAL, Float.MIN_VALUE * 3, Float.MIN_VALUE};
        for (float a : small) {
            for (float b : small) {
                DialTrain x = readings(F, a);
                due.is("rest of " + a + " by " + b, x.rest(F, F, 0, f(b)), 1);
                item(x, F, F, 0, a % b);
            }
        }
    }

    private static void promise9() {
        due.part("promise 9, wind");
        for (int lane = 0; lane < 2; lane++) {
            DialTrain x = readings(lane, 5.0, 6.5, -7.0, ENDLESS, 9.0);
            long by = bits(lane, 2.0);
            due.is("wind up to an endless one", x.wind(lane, lane, 1, by), 2);
            item(x, lane, lane, 0, 5.0);
            item(x, lane, lane, 1, 0.5);
            item(x, lane, lane, 2, -1.0);
            item(x, lane, lane, 3, ENDLESS);
            item(x, lane, lane, 4, 9.0);
            refusals(x, 0, 0, 0, 0, 1);
            due.is("wind from an endless one", x.wind(lane, lane, 3, by), 0);
            refusals(x, 0, 0, 0, 0, 2);
            due.is("wind to the end", x.wind(lane, lane, 4, by), 1);
            item(x, lane, lane, 4, 1.0);
            due.is("wind from the end", x.wind(lane, lane, 5, by), 0);
            due.is("wind by 0.0 from the end", x.wind(lane, lane, 5, 0), 0);
            refusals(x, 0, 0, 0, 0, 2);
            due.is("wind by 0.0", x.wind(lane, lane, 0, 0), 0);
            due.is("wind by -0.0", x.wind(lane, lane, 0, bits(lane, -0.0)), 0);
            item(x, lane, lane, 0, 5.0);
            refusals(x, 0, 0, 0, 0, 4);
            due.is("wind beyond the end", x.wind(lane, lane, 6, by), INDEX);
            due.is("wind from below", x.wind(lane, lane, -1, by), INDEX);
            due.is("wind from far below", x.wind(lane, lane, MIN, by), INDEX);
            due.is("wind from far beyond", x.wind(lane, lane, MAX, by), INDEX);
            refusals(x, 0, 0, 4, 0, 4);
            x.row(lane, lane, 0);
            due.is("wind of no items", x.wind(lane, lane, 0, 0), 0);
            due.is("wind of no items, beyond", x.wind(lane, lane, 1, 0), INDEX);
            refusals(x, 0, 0, 5, 0, 4);
        }
        DialTrain x = rows();
        due.is("wind in nothing", x.wind(7, D, 9, 0), NULL);
        due.is("wind of no such row", x.wind(0, D, 9, 0), CAST);
        due.is("wind by no double", x.wind(7, D, 0, NO_DOUBLES[1]), BAD);
        due.is("wind by no float", x.wind(7, F, 0, NO_FLOATS[1]), BAD);
        due.is("wind with no lane", x.wind(2, 2, 0, 0), BAD);
        due.is("wind with no lane in nothing", x.wind(7, 3, 0, 0), BAD);
        due.is("wind of no slot", x.wind(8, F, 0, 0), BAD);
        refusals(x, 1, 1, 0, 0, 0);
    }

    private static void casts(int lane, double a, long... want) {
        DialTrain x = readings(lane, a);
        for (int how = 0; how < want.length; how++) {
            due.is("as of " + a + " by " + how, x.as(lane, lane, 0, how), want[how]);
            due.is("failed()", x.failed(), 0);
        }
        item(x, lane, lane, 0, a);
    }

    private static void promise10() {
        due.part("promise 10, as");
        for (int lane = 0; lane < 2; lane++) {
            casts(lane, 3.75, 3, 3, 3, 3, 3, f(3.75), d(3.75));
            casts(lane, -3.75, -3, -3, -3, -3, 65533, f(-3.75), d(-3.75));
            casts(lane, -0.0, 0, 0, 0, 0, 0, 0x80000000L, Long.MIN_VALUE);
            casts(lane, 200.0, 200, 200, -56, 200, 200, f(200.0), d(200.0));
            casts(lane, 40000.0, 40000, 40000, 64, -25536, 40000, f(40000.0), d(40000.0));
            casts(lane, 65536.0, 65536, 65536, 0, 0, 0, f(65536.0), d(65536.0));
            casts(lane, 4294967296.0, MAX, 4294967296L, -1, -1, 65535, f(4294967296.0), d(4294967296.0));
            casts(lane, -4294967296.0, MIN, -4294967296L, 0, 0, 0, f(-4294967296.0), d(-4294967296.0));
            casts(lane, 1e19f, MAX, Long.MAX_VALUE, -1, -1, 65535, f(1e19f), d(1e19f));
            casts(lane, ENDLESS, MAX, Long.MAX_VALUE, -1, -1, 65535, 0x7f800000L, 0x7ff0000000000000L);
            casts(lane, -ENDLESS, MIN, Long.MIN_VALUE, 0, 0, 0, 0xff800000L, 0xfff0000000000000L);
            casts(lane, Float.MIN_VALUE, 0, 0, 0, 0, 0, 1, 0x36a0000000000000L);
        }
        casts(D, 1e300, MAX, Long.MAX_VALUE, -1, -1, 65535, 0x7f800000L, d(1e300));
        casts(D, -1e-300, 0, 0, 0, 0, 0, 0x80000000L, d(-1e-300));
        casts(D, 0.1, 0, 0, 0, 0, 0, f(0.1), d(0.1));
        casts(D, Double.MIN_VALUE, 0, 0, 0, 0, 0, 0, 1);
        DialTrain x = rows();
        refusedAs(x, 7, D, 9, 0, NULL);
        refusedAs(x, 1, F, 9, 6, CAST);
        refusedAs(x, 3, F, 0, 6, CAST);
        refusedAs(x, 1, D, 3, 0, INDEX);
        refusedAs(x, 0, F, -1, 0, INDEX);
        for (int how : new int[] {-1, 7, MIN, MAX}) {
            refusedAs(x, 0, F, 0, how, BAD);
            refusedAs(x, 7, F, 0, how, BAD);
        }
        for (int lane : new int[] {-1, 2, 3, MIN, MAX}) {
            refusedAs(x, 0, lane, 0, 0, BAD);
            refusedAs(x, 7, lane, 0, 0, BAD);
        }
        refusedAs(x, 8, F, 0, 0, BAD);
        refusedAs(x, -1, F, 0, 0, BAD);
        refusals(x, 1, 2, 2, 0, 0);
    }

    private static void wholes(long v, float[] floats, double[] doubles) {
        DialTrain x = rows();
        for (int how = 0; how < 4; how++) {
            due.is("whole of " + v + " by " + how, x.whole(0, F, 1, v, how), 1);
            item(x, 0, F, 1, floats[how]);
            due.is("whole of " + v + " by " + how, x.whole(1, D, 1, v, how), 1);
            item(x, 1, D, 1, doubles[how]);
        }
        item(x, 0, F, 0, 0.0);
        item(x, 1, D, 2, 0.0);
    }

    private static void promise11() {
        due.part("promise 11, whole");
        long[] all = {0, 1, -1, 16777217, -16777219, 4294967297L, 2147483648L, 9007199254740993L, Long.MIN_VALUE, Long.MAX_VALUE,
            0x4000004000000001L, 0x0020000020000001L, 0x7fffffbfffffffffL, 0x7fffffc000000000L, 0x7ffffffffffffdffL};
        for (long v : all) {
            wholes(v, new float[] {v, (int) v, (float) v, (float) (double) v}, new double[] {v, (int) v, (float) v, (double) v});
        }
        // over a double it is rounded twice
        wholes(0x4000004000000001L,
                new float[] {0x1.000002p62f, 1.0f, 0x1.000002p62f, 0x1.0p62f},
                new double[] {0x1.000001p62, 1.0, 0x1.000002p62, 0x1.000001p62});
        DialTrain x = rows();
        due.is("whole in nothing", x.whole(7, D, 9, 1, 0), NULL);
        due.is("whole of no such row", x.whole(0, D, 9, 1, 0), CAST);
        due.is("whole outside", x.whole(1, D, 3, 1, 0), INDEX);
        due.is("whole below", x.whole(0, F, -1, 1, 0), INDEX);
        for (int how : new int[] {-1, 4, MIN, MAX}) {
            due.is("whole by no how", x.whole(0, F, 0, 1, how), BAD);
            due.is("whole by no how in nothing", x.whole(7, F, 0, 1, how), BAD);
        }
        for (int lane : new int[] {-1, 2, 3, MIN, MAX}) {
            due.is("whole with no lane", x.whole(0, lane, 0, 1, 0), BAD);
            due.is("whole with no lane in nothing", x.whole(7, lane, 0, 1, 0), BAD);
        }
        due.is("whole of no slot", x.whole(8, F, 0, 1, 0), BAD);
        item(x, 0, F, 0, 0.0);
        refusals(x, 1, 1, 2, 0, 0);
    }

    private static void promise12() {
        due.part("promise 12, move");
        for (double a : new double[] {0.1, -2.5, -0.0, 1e300, -1e300, 1e-46, 1e-45, -1e-60, ENDLESS, -ENDLESS, 3.4028235677973366E38}) {
            DialTrain x = rows();
            x.put(1, D, 2, d(a));
            due.is("move of a double to FLOATS", x.move(1, D, 2, 0, F, 1), 1);
            item(x, 0, F, 1, (float) a);
            due.is("move of a float to DOUBLES", x.move(0, F, 1, 1, D, 0), 1);
            item(x, 1, D, 0, (float) a);
            item(x, 1, D, 2, a);
            due.is("move in one slot", x.move(1, D, 2, 1, D, 1), 1);
            item(x, 1, D, 1, a);
            due.is("move in one slot", x.move(0, F, 1, 0, F, 2), 1);
            item(x, 0, F, 2, (float) a);
        }
        DialTrain x = rows();
        x.put(0, F, 0, f(1.0));
        due.is("the first is nothing, the second outside", x.move(7, F, 9, 1, D, 9), NULL);
        due.is("the first is no such row, the second nothing", x.move(1, F, 9, 7, D, 0), CAST);
        due.is("the first is outside, the second nothing", x.move(0, F, 3, 7, D, 0), INDEX);
        due.is("the first is below, the second no such row", x.move(0, F, -1, 0, D, 0), INDEX);
        due.is("the second is nothing", x.move(0, F, 0, 7, D, 9), NULL);
        due.is("the second is no such row", x.move(0, F, 0, 2, D, 9), CAST);
        due.is("the second is outside", x.move(0, F, 0, 1, D, 3), INDEX);
        due.is("the second is below", x.move(0, F, 0, 1, D, -1), INDEX);
        refusals(x, 2, 2, 4, 0, 0);
        for (int no : NO_SLOTS) {
            due.is("move from no slot", x.move(no, F, 0, 1, D, 0), BAD);
            due.is("move to no slot", x.move(7, F, 0, no, D, 0), BAD);
        }
        for (int no : new int[] {-1, 2, 3}) {
            due.is("move from no lane", x.move(0, no, 0, 1, D, 0), BAD);
            due.is("move to no lane", x.move(7, F, 0, 1, no, 0), BAD);
        }
        item(x, 1, D, 0, 0.0);
        refusals(x, 2, 2, 4, 0, 0);
    }

    private static void promise13() {
        due.part("promise 13, failed");
        DialTrain x = spindles();
        due.is("failed() before any", x.failed(), 0);
        due.is("put, refused", x.put(0, D, 0, 0), CAST);
        due.is("failed() after a put", x.failed(), 0);
        refusedGet(x, 7, F, 0, NULL);
        due.is("failed() again", x.failed(), NULL);
        due.is("put, refused", x.put(0, D, 0, 0), CAST);
        due.is("turn, refused", x.turn(2, 9, 0), INDEX);
        due.is("put", x.put(0, F, 0, 0), 1);
        due.is("count(9)", x.count(9), BAD);
        due.is("failed() after others", x.failed(), NULL);
        refusedAs(x, 0, F, 3, 0, INDEX);
        due.is("a get that goes well", x.get(0, F, 0), 0);
        due.is("failed()", x.failed(), 0);
        refusedAngle(x, 0, 0, CAST);
        due.is("an as that goes well", x.as(0, F, 0, 0), 0);
        due.is("failed()", x.failed(), 0);
        refusedClicks(x, 9, 0, BAD);
        due.is("an angle that goes well", x.angle(2, 0), 0);
        due.is("failed()", x.failed(), 0);
        refusedGet(x, 0, 5, 0, BAD);
        due.is("clicks that go well", x.clicks(3, 0), 0);
        due.is("failed()", x.failed(), 0);
    }

    private static void promise14() {
        due.part("promise 14, wheel");
        DialTrain x = rows();
        x.row(4, SPINDLE, 6);
        for (int k = 0; k < 6; k++) {
            due.is("wheel", x.wheel(k, k % 2, k < 3 ? 1 : 1000000), 1);
            x.lay(4, k, k);
            due.is("turn", x.turn(4, k, d(2500000.5)), 1);
            turned(x, 4, k, k < 3 ? 0.5 : 500000.5);
            if (k % 2 == 1) {
                clicked(x, 4, k, k < 3 ? 2500000 : 2);
            } else {
                refusedClicks(x, 4, k, CAST);
            }
        }
        for (int k : new int[] {-1, 6, MIN, MAX}) {
            due.is("no such wheel", x.wheel(k, 0, 10), BAD);
        }
        for (int kind : new int[] {-1, 2, MIN, MAX}) {
            due.is("wheel of no kind", x.wheel(0, kind, 10), BAD);
        }
        for (int teeth : new int[] {0, -1, 1000001, MIN, MAX}) {
            due.is("wheel of " + teeth + " teeth", x.wheel(0, 0, teeth), BAD);
            due.is("ratchet of " + teeth + " teeth", x.wheel(0, 1, teeth), BAD);
        }
        due.is("count(1)", x.count(1), 6);
        due.is("a new one", x.wheel(3, 1, 7), 1);
        turned(x, 4, 3, 500000.5);
        due.is("lay(4, 0, 3)", x.lay(4, 0, 3), 1);
        turned(x, 4, 0, 0.0);
        clicked(x, 4, 0, 0);
        clicked(x, 4, 3, 2);
        due.is("count(1)", x.count(1), 7);
    }

    private static void promise15() {
        due.part("promise 15, lay");
        DialTrain x = spindles();
        due.is("a WHEEL on a FAST SPINDLE", x.lay(3, 0, 0), STORE);
        clicked(x, 3, 0, 0);
        due.is("none on a FAST SPINDLE", x.lay(3, 0, -1), 1);
        refusedAngle(x, 3, 0, NULL);
        due.is("one that is not there on a FAST SPINDLE", x.lay(3, 0, 5), 1);
        due.is("a RATCHET on a FAST SPINDLE", x.lay(3, 2, 1), 1);
        due.is("none on a SPINDLE", x.lay(2, 1, -1), 1);
        refusedAngle(x, 2, 1, NULL);
        due.is("one that is not there", x.lay(2, 0, 5), 1);
        refusedAngle(x, 2, 0, NULL);
        due.is("a RATCHET on a SPINDLE", x.lay(2, 0, 1), 1);
        due.is("turn of it", x.turn(2, 0, d(13.0)), 1);
        turned(x, 3, 2, 3.0);
        due.is("lay in nothing", x.lay(7, 9, 0), NULL);
        due.is("lay in FLOATS", x.lay(0, 9, 0), CAST);
        due.is("lay in DOUBLES", x.lay(1, 0, 0), CAST);
        due.is("lay outside", x.lay(3, 3, 0), INDEX);
        due.is("lay below", x.lay(2, -1, 0), INDEX);
        due.is("lay of none outside", x.lay(2, 3, -1), INDEX);
        for (int k : new int[] {-2, 6, MIN, MAX}) {
            due.is("lay of no such wheel", x.lay(7, 0, k), BAD);
        }
        for (int no : NO_SLOTS) {
            due.is("lay on no slot", x.lay(no, 0, 0), BAD);
        }
        refusals(x, 4, 2, 3, 1, 0);
    }

    private static void promise16() {
        due.part("promise 16, turn");
        DialTrain x = spindles();
        due.is("turn of a WHEEL", x.turn(2, 0, d(23.5)), 1);
        turned(x, 2, 0, 3.5);
        due.is("turn on", x.turn(2, 0, d(8.0)), 1);
        turned(x, 2, 0, 1.5);
        due.is("turn back", x.turn(2, 0, d(-14.0)), 1);
        turned(x, 2, 0, -2.5);
        due.is("turn back to -0.0", x.turn(2, 0, d(-7.5)), 1);
        turned(x, 2, 0, -0.0);
        due.is("turn by -0.0", x.turn(2, 0, d(-0.0)), 1);
        turned(x, 2, 0, -0.0);
        due.is("turn by 0.0", x.turn(2, 0, d(0.0)), 1);
        turned(x, 2, 0, 0.0);
        due.is("turn by the greatest", x.turn(2, 0, d(Double.MAX_VALUE)), 1);
        turned(x, 2, 0, Double.MAX_VALUE % 10.0);
        due.is("turn by the endless", x.turn(2, 0, d(ENDLESS)), NONE);
        turned(x, 2, 0, Double.MAX_VALUE % 10.0);
        due.is("turn of a RATCHET", x.turn(2, 1, d(37.25)), 1);
        turned(x, 3, 0, 7.25);
        clicked(x, 3, 0, 3);
        due.is("turn on, by what is there, too", x.turn(3, 0, d(2.75)), 1);
        turned(x, 3, 0, 0.0);
        clicked(x, 3, 0, 4);
        due.is("turn of a RATCHET back", x.turn(3, 0, d(-5.0)), 0);
        due.is("turn of a RATCHET back, a little", x.turn(3, 0, d(-Double.MIN_VALUE)), 0);
        due.is("turn of a RATCHET by -0.0", x.turn(3, 0, d(-0.0)), 1);
        turned(x, 3, 0, 0.0);
        clicked(x, 3, 0, 4);
        due.is("turn of a RATCHET by the endless", x.turn(3, 0, d(ENDLESS)), NONE);
        due.is("turn of a RATCHET by the endless, back", x.turn(3, 0, d(-ENDLESS)), NONE);
        refusals(x, 0, 0, 0, 0, 3);
        due.is("turn of a RATCHET far", x.turn(3, 0, d(1e300)), 1);
        clicked(x, 3, 0, Long.MAX_VALUE + 4);
        turned(x, 3, 0, 1e300 % 10.0);
        due.is("turn of none", x.turn(2, 2, 0), NULL);
        due.is("turn of none by the endless", x.turn(2, 2, d(ENDLESS)), NULL);
        due.is("turn in nothing", x.turn(7, 9, 0), NULL);
        due.is("turn in DOUBLES", x.turn(1, 9, 0), CAST);
        due.is("turn in FLOATS", x.turn(0, 0, 0), CAST);
        due.is("turn outside", x.turn(2, 3, 0), INDEX);
        due.is("turn below", x.turn(3, -1, d(ENDLESS)), INDEX);
        for (long no : NO_DOUBLES) {
            due.is("turn by no number", x.turn(7, 0, no), BAD);
        }
        for (int no : NO_SLOTS) {
            due.is("turn in no slot", x.turn(no, 0, 0), BAD);
        }
        refusals(x, 3, 2, 2, 0, 3);
    }

    private static void promise17() {
        due.part("promise 17, train");
        DialTrain x = spindles();
        x.put(1, D, 0, d(13.5));
        x.put(1, D, 1, d(-4.0));
        x.put(1, D, 2, d(ENDLESS));
        due.is("train up to a place without one", x.train(2, 0, 1, 0), 2);
        turned(x, 2, 0, 3.5);
        turned(x, 2, 1, 3.5);
        clicked(x, 2, 1, 1);
        due.is("train back", x.train(2, 0, 1, 1), 2);
        turned(x, 2, 0, -0.5);
        turned(x, 2, 1, 3.5);
        due.is("train from 1", x.train(2, 1, 1, 0), 1);
        turned(x, 2, 0, -0.5);
        turned(x, 2, 1, 7.0);
        due.is("train from a place without one", x.train(2, 2, 1, 0), 0);
        due.is("train from the end", x.train(2, 3, 1, 0), 0);
        due.is("train from far beyond", x.train(2, MAX, 1, 0), 0);
        refusals(x, 0, 0, 0, 0, 0);
        due.is("train by the endless", x.train(2, 0, 1, 2), 0);
        refusals(x, 0, 0, 0, 0, 1);
        due.is("train by the endless, without one", x.train(2, 2, 1, 2), 0);
        due.is("train by the endless, from the end", x.train(2, 3, 1, 2), 0);
        refusals(x, 0, 0, 0, 0, 1);
        turned(x, 2, 0, -0.5);
        x.lay(3, 1, 1);
        x.lay(3, 2, 1);
        due.is("train of one RATCHET in three places", x.train(3, 0, 1, 0), 3);
        turned(x, 2, 1, (7.0 + 3 * 13.5) % 10.0);
        clicked(x, 2, 1, 1 + 1 + 4);
        due.is("train by nothing, of nothing", x.train(7, -1, 7, 9), NULL);
        due.is("train by FLOATS, of nothing", x.train(7, -1, 0, 9), CAST);
        due.is("train by a SPINDLE", x.train(2, 0, 2, 0), CAST);
        due.is("train by what is outside, of nothing", x.train(7, -1, 1, 3), INDEX);
        due.is("train by what is below, of nothing", x.train(7, -1, 1, -1), INDEX);
        due.is("train of nothing", x.train(7, -1, 1, 0), NULL);
        due.is("train of DOUBLES", x.train(1, -1, 1, 0), CAST);
        due.is("train from below", x.train(2, -1, 1, 0), INDEX);
        due.is("train from far below", x.train(3, MIN, 1, 2), INDEX);
        x.row(2, SPINDLE, 0);
        due.is("train of no places", x.train(2, 0, 1, 0), 0);
        due.is("train of no places, from below", x.train(2, -1, 1, 0), INDEX);
        refusals(x, 2, 3, 5, 0, 1);
        for (int no : NO_SLOTS) {
            due.is("train of no slot", x.train(no, 0, 7, 0), BAD);
            due.is("train by no slot", x.train(7, 0, no, 0), BAD);
        }
        refusals(x, 2, 3, 5, 0, 1);
    }

    private static void promise18() {
        due.part("promise 18, angle");
        DialTrain x = spindles();
        turned(x, 2, 0, 0.0);
        for (double by : new double[] {0.1, 0.2, 1e-310, 4.9E-324, 9.7, -3.3, 1e17, -1e-5}) {
            double want = (Double.longBitsToDouble(x.angle(2, 0)) + by) % 10;
            x.turn(2, 0, d(by));
            turned(x, 2, 0, want);
        }
        refusedAngle(x, 2, 2, NULL);
        refusedAngle(x, 3, 1, NULL);
        refusedAngle(x, 7, 9, NULL);
        refusedAngle(x, 0, 9, CAST);
        refusedAngle(x, 1, 0, CAST);
        refusedAngle(x, 2, 3, INDEX);
        refusedAngle(x, 3, -1, INDEX);
        for (int no : NO_SLOTS) {
            refusedAngle(x, no, 0, BAD);
        }
        refusals(x, 3, 2, 2, 0, 0);
    }

    private static void promise19() {
        due.part("promise 19, clicks");
        DialTrain x = spindles();
        clicked(x, 2, 1, 0);
        x.turn(3, 0, d(9.99));
        clicked(x, 2, 1, 0);
        x.turn(3, 0, d(0.02));
        clicked(x, 2, 1, 1);
        x.turn(3, 0, d(1e25));
        clicked(x, 2, 1, Long.MIN_VALUE);
        x.turn(3, 0, d(1e25));
        clicked(x, 2, 1, -1);
        refusedClicks(x, 2, 0, CAST);
        refusedClicks(x, 2, 2, NULL);
        refusedClicks(x, 7, 9, NULL);
        refusedClicks(x, 0, 9, CAST);
        refusedClicks(x, 1, 0, CAST);
        refusedClicks(x, 2, 3, INDEX);
        refusedClicks(x, 3, -1, INDEX);
        for (int no : NO_SLOTS) {
            refusedClicks(x, no, 0, BAD);
        }
        refusals(x, 2, 3, 2, 0, 0);
    }

    private static void promise20() {
        due.part("promise 20, count");
        DialTrain x = new DialTrain();
        due.is("count(0)", x.count(0), 0);
        for (int slot = 0; slot < 8; slot++) {
            x.row(slot, slot % 4, 0);
            due.is("count(0)", x.count(0), slot + 1);
        }
        x.row(0, F, 1);
        x.hold(0, 1);
        due.is("count(0) of the same", x.count(0), 8);
        x.hold(-1, 1);
        due.is("count(0)", x.count(0), 7);
        due.is("row below 0", x.row(1, F, -1), SIZE);
        due.is("row of no kind", x.row(1, 4, 0), BAD);
        due.is("count(0)", x.count(0), 7);
        for (int n = 1; n <= 9; n++) {
            x.wheel(0, n % 2, 5);
            due.is("count(1)", x.count(1), n);
        }
        due.is("wheel, refused", x.wheel(0, 0, 0), BAD);
        due.is("count(1)", x.count(1), 9);
        for (int what : new int[] {-1, 7, MIN, MAX}) {
            due.is("count of no such thing", x.count(what), BAD);
        }
        refusals(x, 0, 0, 0, 0, 0);
        refusals(x, 0, 0, 0, 0, 0);
        eachRefusalOnce();
    }

    private static void eachRefusalOnce() {
        DialTrain x = spindles();
        x.put(1, D, 0, d(ENDLESS));
        x.size(7, F);
        refusals(x, 1, 0, 0, 0, 0);
        x.angle(2, 2);
        refusals(x, 2, 0, 0, 0, 0);
        x.clicks(2, 0);
        refusals(x, 2, 1, 0, 0, 0);
        x.get(1, D, 3);
        refusals(x, 2, 1, 1, 0, 0);
        x.lay(3, 1, 0);
        refusals(x, 2, 1, 1, 1, 0);
        x.rest(1, D, 1, 0);
        refusals(x, 2, 1, 1, 1, 1);
        x.wind(1, D, 0, d(1.0));
        refusals(x, 2, 1, 1, 1, 2);
        x.train(2, 0, 1, 0);
        refusals(x, 2, 1, 1, 1, 3);
        x.train(2, 2, 1, 1);
        refusals(x, 2, 1, 1, 1, 3);
    }
}
