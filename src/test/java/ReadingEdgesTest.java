/** The edges of promises 6 to 12: FLOATS and DOUBLES; a test for each sentence. */
public final class ReadingEdgesTest extends Bench {
    private static final long LONG_MIN = Long.MIN_VALUE, LONG_MAX = Long.MAX_VALUE;

    /** A call that takes a SLOT with a LANE, and item i of it: 1 or more if it was done, else the refusal. */
    private interface Taking {
        long answer(DialTrain x, int slot, int lane, int i);
    }

    private static final Taking PUT = (x, slot, lane, i) -> x.put(slot, lane, i, bits(lane, 1.0));
    private static final Taking GET = (x, slot, lane, i) -> doneOr(x, x.get(slot, lane, i));
    private static final Taking REST = (x, slot, lane, i) -> x.rest(slot, lane, i, bits(lane, 1.0));
    private static final Taking WIND = (x, slot, lane, i) -> x.wind(slot, lane, i, bits(lane, 1.0));
    private static final Taking AS = (x, slot, lane, i) -> doneOr(x, x.as(slot, lane, i, 1));
    private static final Taking WHOLE = (x, slot, lane, i) -> x.whole(slot, lane, i, 1, 0);
    private static final Taking MOVE_FROM = (x, slot, lane, i) -> x.move(slot, lane, i, 1, D, 0);
    private static final Taking MOVE_TO = (x, slot, lane, i) -> x.move(1, D, 0, slot, lane, i);

    public static void main(String[] args) {
        runAll(ReadingEdgesTest.class);
    }

    /** The items are 0.0 in these tests, so that 0 is due whether or not it was refused. */
    private static long doneOr(DialTrain x, long answer) {
        due.is("the answer", answer, 0);
        return x.failed() == 0 ? 1 : x.failed();
    }

    private static String at(int slot, int lane, int i) {
        return "SLOT " + slot + ", LANE " + lane + ", item " + i;
    }

    private static void noSuchSlot(Taking call) {
        DialTrain x = rows();
        for (int no : NO_SLOTS) {
            for (int lane = 0; lane < 2; lane++) {
                due.is(at(no, lane, 0), call.answer(x, no, lane, 0), BAD);
                due.is(at(no, lane, -1), call.answer(x, no, lane, -1), BAD);
            }
        }
        refusals(x, 0, 0, 0, 0, 0);
    }

    private static void noSuchLane(Taking call) {
        DialTrain x = rows();
        for (int no : NO_LANES) {
            for (int slot = 0; slot < 8; slot++) {
                due.is(at(slot, no, 0), call.answer(x, slot, no, 0), BAD);
            }
        }
        refusals(x, 0, 0, 0, 0, 0);
    }

    private static void nothingHeld(Taking call) {
        DialTrain x = rows();
        for (int lane = 0; lane < 2; lane++) {
            due.is(at(EMPTY, lane, 0), call.answer(x, EMPTY, lane, 0), NULL);
            due.is(at(EMPTY, lane, -1), call.answer(x, EMPTY, lane, -1), NULL);
            due.is(at(EMPTY, lane, 24), call.answer(x, EMPTY, lane, 24), NULL);
        }
        refusals(x, 6, 0, 0, 0, 0);
    }

    private static void noSuchRow(Taking call) {
        DialTrain x = rows();
        for (int kind = 0; kind < 4; kind++) {
            for (int lane = 0; lane < 2; lane++) {
                if (kind != lane) {
                    due.is(at(kind, lane, 0), call.answer(x, kind, lane, 0), CAST);
                    due.is(at(kind, lane, -1), call.answer(x, kind, lane, -1), CAST);
                    due.is(at(kind, lane, 24), call.answer(x, kind, lane, 24), CAST);
                }
            }
        }
        refusals(x, 0, 18, 0, 0, 0);
    }

    /** The first of the items that are too many is told: wind() may begin behind the last one. */
    private static void noSuchItem(Taking call, int beyond) {
        DialTrain x = rows();
        for (int lane = 0; lane < 2; lane++) {
            for (int i : new int[] {-1, beyond, 24, MIN, MAX}) {
                due.is(at(lane, lane, i), call.answer(x, lane, lane, i), INDEX);
            }
            due.is(at(lane, lane, 0), call.answer(x, lane, lane, 0) > 0 ? 1 : 0, 1);
            due.is(at(lane, lane, 2), call.answer(x, lane, lane, 2) > 0 ? 1 : 0, 1);
        }
        refusals(x, 0, 0, 10, 0, 0);
    }

    private static void noItemsAtAll(Taking call, int beyond) {
        DialTrain x = rows();
        for (int lane = 0; lane < 2; lane++) {
            due.is("row(6, " + lane + ", 0)", x.row(6, lane, 0), 1);
            due.is(at(6, lane, -1), call.answer(x, 6, lane, -1), INDEX);
            due.is(at(6, lane, beyond), call.answer(x, 6, lane, beyond), INDEX);
        }
        refusals(x, 0, 0, 4, 0, 0);
    }

    /** All refusals of TAKING at once in the call, then one less, and so on. */
    private static void inThisOrder(Taking call) {
        DialTrain x = rows();
        due.is("hold(2, 0)", x.hold(2, 0), 1);
        due.is("nothing there, nor such an item", call.answer(x, EMPTY, F, 99), NULL);
        due.is("no such ROW, nor such an item", call.answer(x, 0, F, 99), CAST);
        due.is("row(0, 0, 3)", x.row(0, F, 3), 1);
        due.is("no such item", call.answer(x, 0, F, 99), INDEX);
        refusals(x, 1, 1, 1, 0, 0);
    }

    @Says(promise = 6, text = "BAD -1 there is no such thing")
    private static void putToNoSuchSlot() {
        noSuchSlot(PUT);
    }

    @Says(promise = 6, text = "WITH A LANE (0, 1)")
    private static void putWithNoSuchLane() {
        noSuchLane(PUT);
    }

    @Says(promise = 6, text = "-11 NULL if it holds nothing")
    private static void putToNothing() {
        nothingHeld(PUT);
    }

    @Says(promise = 6, text = "-12 CAST if that is no such ROW")
    private static void putToNoSuchRow() {
        noSuchRow(PUT);
    }

    @Says(promise = 6, text = "-13 INDEX if there is no such item")
    private static void putToNoSuchItem() {
        noSuchItem(PUT, 3);
        noItemsAtAll(PUT, 0);
    }

    @Says(promise = 6, text = "in this order")
    private static void putRefusedInOrder() {
        inThisOrder(PUT);
    }

    @Says(promise = 6, text = "BITS of no number are BAD")
    private static void putOfNoNumber() {
        for (int lane = 0; lane < 2; lane++) {
            DialTrain x = readings(lane, 1.0, 2.0);
            for (long no : noNumbers(lane)) {
                due.is("put of " + Long.toHexString(no), x.put(lane, lane, 0, no), BAD);
                due.is("put of it to nothing", x.put(EMPTY, lane, 0, no), BAD);
                due.is("put of it to no such ROW", x.put(lane, 1 - lane, 0, noNumbers(1 - lane)[0]), BAD);
                due.is("put of it to no such item", x.put(lane, lane, 2, no), BAD);
            }
            items(x, lane, lane, 1.0, 2.0);
            refusals(x, 0, 0, 0, 0, 0);
        }
    }

    @Says(promise = 6, text = "A number is told by its BITS")
    private static void putOfTheOutermostNumbers() {
        double[] all = {0.0, -0.0, ENDLESS, -ENDLESS, Float.MIN_VALUE, -Float.MIN_VALUE, Float.MAX_VALUE, -Float.MAX_VALUE,
            Float.MIN_NORMAL, Float.MIN_NORMAL - Float.MIN_VALUE};
        for (int lane = 0; lane < 2; lane++) {
            items(readings(lane, all), lane, lane, all);
        }
        double[] more = {Double.MIN_VALUE, -Double.MIN_VALUE, Double.MAX_VALUE, -Double.MAX_VALUE, Double.MIN_NORMAL,
            Double.MIN_NORMAL - Double.MIN_VALUE};
        items(readings(D, more), D, D, more);
    }

    @Says(promise = 6, text = "of a float the lowest 32 of a long count")
    private static void putOfAFloatByTheLowest32() {
        DialTrain x = rows();
        due.is("with sign", x.put(0, F, 0, (long) (int) f(-3.0)), 1);
        due.is("without sign", x.put(0, F, 1, f(-3.0)), 1);
        due.is("more above", x.put(0, F, 2, 0x7ff8000100000000L | f(-3.0)), 1);
        items(x, 0, F, -3.0, -3.0, -3.0);
        due.is("only above", x.put(0, F, 0, d(5.0)), 1);
        item(x, 0, F, 0, 0.0);
        due.is("all above", x.put(0, F, 0, 0xffffffff00000000L), 1);
        item(x, 0, F, 0, 0.0);
    }

    @Says(promise = 6, text = "Item i of a SLOT, TAKEN with a LANE, becomes a number: 1.")
    private static void putToTheFirstAndTheLast() {
        for (int lane = 0; lane < 2; lane++) {
            DialTrain x = readings(lane, 1.0, 2.0, 3.0);
            due.is("put to the first", x.put(lane, lane, 0, bits(lane, -7.0)), 1);
            items(x, lane, lane, -7.0, 2.0, 3.0);
            due.is("put to the last", x.put(lane, lane, 2, bits(lane, 0.1)), 1);
            items(x, lane, lane, -7.0, 2.0, 0.1);
        }
    }

    @Says(promise = 7, text = "BAD -1 there is no such thing")
    private static void getOfNoSuchSlot() {
        noSuchSlot(GET);
    }

    @Says(promise = 7, text = "WITH A LANE (0, 1)")
    private static void getWithNoSuchLane() {
        noSuchLane(GET);
    }

    @Says(promise = 7, text = "-11 NULL if it holds nothing")
    private static void getOfNothing() {
        nothingHeld(GET);
    }

    @Says(promise = 7, text = "-12 CAST if that is no such ROW")
    private static void getOfNoSuchRow() {
        noSuchRow(GET);
    }

    @Says(promise = 7, text = "-13 INDEX if there is no such item")
    private static void getOfNoSuchItem() {
        noSuchItem(GET, 3);
        noItemsAtAll(GET, 0);
    }

    @Says(promise = 7, text = "in this order")
    private static void getRefusedInOrder() {
        inThisOrder(GET);
    }

    @Says(promise = 7, text = "(of a float without sign)")
    private static void getOfAFloatIsWithoutSign() {
        DialTrain x = readings(F, -0.0, -1.0, -ENDLESS, ENDLESS);
        long[] want = {0x80000000L, 0xbf800000L, 0xff800000L, 0x7f800000L};
        for (int i = 0; i < 4; i++) {
            due.is("get(0, 0, " + i + ")", x.get(0, F, i), want[i]);
        }
        DialTrain y = readings(D, -0.0, -1.0, -ENDLESS);
        due.is("get of -0.0", y.get(1, D, 0), LONG_MIN);
        due.is("get of -1.0", y.get(1, D, 1), 0xbff0000000000000L);
        due.is("get of the endless below", y.get(1, D, 2), 0xfff0000000000000L);
    }

    @Says(promise = 7, text = "0: it was refused; failed() tells")
    private static void getRefusedIsZero() {
        DialTrain x = readings(F, 1.0, 2.0);
        refusedGet(x, 0, F, 2, INDEX);
        refusedGet(x, 0, D, 0, CAST);
        refusedGet(x, EMPTY, F, 0, NULL);
        refusedGet(x, 8, F, 0, BAD);
        refusedGet(x, 0, 2, 0, BAD);
        item(x, 0, F, 1, 2.0);
    }

    @Says(promise = 8, text = "BAD -1 there is no such thing")
    private static void restInNoSuchSlot() {
        noSuchSlot(REST);
    }

    @Says(promise = 8, text = "WITH A LANE (0, 1)")
    private static void restWithNoSuchLane() {
        noSuchLane(REST);
    }

    @Says(promise = 8, text = "-11 NULL if it holds nothing")
    private static void restOfNothing() {
        nothingHeld(REST);
    }

    @Says(promise = 8, text = "-12 CAST if that is no such ROW")
    private static void restOfNoSuchRow() {
        noSuchRow(REST);
    }

    @Says(promise = 8, text = "-13 INDEX if there is no such item")
    private static void restOfNoSuchItem() {
        noSuchItem(REST, 3);
        noItemsAtAll(REST, 0);
    }

    @Says(promise = 8, text = "in this order")
    private static void restRefusedInOrder() {
        inThisOrder(REST);
    }

    @Says(promise = 8, text = "BITS of no number are BAD")
    private static void restByNoNumber() {
        for (int lane = 0; lane < 2; lane++) {
            DialTrain x = readings(lane, 7.0, ENDLESS);
            for (long no : noNumbers(lane)) {
                due.is("rest by " + Long.toHexString(no), x.rest(lane, lane, 0, no), BAD);
                due.is("rest of the endless by it", x.rest(lane, lane, 1, no), BAD);
                due.is("rest of nothing by it", x.rest(EMPTY, lane, 0, no), BAD);
                due.is("rest of no such item by it", x.rest(lane, lane, 2, no), BAD);
            }
            items(x, lane, lane, 7.0, ENDLESS);
            refusals(x, 0, 0, 0, 0, 0);
        }
    }

    @Says(promise = 8, text = "of a float the lowest 32 of a long count")
    private static void restByTheLowest32() {
        DialTrain x = readings(F, 7.5, 7.5, 7.5);
        due.is("with sign", x.rest(0, F, 0, (long) (int) f(-2.0)), 1);
        due.is("more above", x.rest(0, F, 1, 0x7ff8000100000000L | f(2.0)), 1);
        due.is("only above", x.rest(0, F, 2, d(2.0)), NONE);
        items(x, 0, F, 1.5, 1.5, 7.5);
    }

    private static void leaves(double a, double b, double want) {
        for (int lane = 0; lane < 2; lane++) {
            DialTrain x = readings(lane, 9.0, a, 9.0);
            due.is("rest of " + a + " by " + b, x.rest(lane, lane, 1, bits(lane, b)), 1);
            items(x, lane, lane, 9.0, want, 9.0);
            refusals(x, 0, 0, 0, 0, 0);
        }
    }

    private static void leavesNone(double a, double b) {
        for (int lane = 0; lane < 2; lane++) {
            DialTrain x = readings(lane, 9.0, a, 9.0);
            due.is("rest of " + a + " by " + b, x.rest(lane, lane, 1, bits(lane, b)), NONE);
            items(x, lane, lane, 9.0, a, 9.0);
            refusals(x, 0, 0, 0, 0, 1);
        }
    }

    @Says(promise = 8, text = "(with a's sign)")
    private static void restHasTheSignOfA() {
        leaves(7.0, 4.0, 3.0);
        leaves(7.0, -4.0, 3.0);
        leaves(-7.0, 4.0, -3.0);
        leaves(-7.0, -4.0, -3.0);
        leaves(8.0, -4.0, 0.0);
        leaves(-8.0, 4.0, -0.0);
        leaves(-0.0, 4.0, -0.0);
        leaves(0.0, -4.0, 0.0);
    }

    @Says(promise = 8, text = "the machine's a % b of the lane")
    private static void restAroundOneRound() {
        leaves(4.0, 4.0, 0.0);
        leaves(-4.0, -4.0, -0.0);
        leaves(Math.nextDown(4.0f), 4.0, Math.nextDown(4.0f));
        leaves(Math.nextUp(4.0f), 4.0, Math.nextUp(4.0f) - 4.0);
        leaves(2.0, 4.0, 2.0);
    }

    @Says(promise = 8, text = "the machine's a % b of the lane")
    private static void restOfTheOutermostNumbers() {
        leaves(Float.MIN_VALUE, Float.MIN_VALUE, 0.0);
        leaves(Float.MIN_VALUE, Float.MAX_VALUE, Float.MIN_VALUE);
        leaves(Float.MAX_VALUE, Float.MIN_VALUE, 0.0);
        leaves(Float.MAX_VALUE, Float.MIN_VALUE * 3.0, Float.MAX_VALUE % (Float.MIN_VALUE * 3.0f));
        leaves(-Float.MAX_VALUE, 11.0, -9.0);
        leaves(Float.MIN_NORMAL * 1.5, Float.MIN_NORMAL, Float.MIN_NORMAL * 0.5);
        leaves(Float.MIN_NORMAL * 3.0, Float.MIN_NORMAL * 2.5, Float.MIN_NORMAL * 0.5);
        leaves(Float.MIN_NORMAL * 7.0, Float.MIN_NORMAL * 6.0, Float.MIN_NORMAL);
        DialTrain x = readings(D, Double.MAX_VALUE, -Double.MAX_VALUE, Double.MIN_VALUE * 7, Double.MIN_NORMAL * 3.0);
        due.is("rest of the greatest by 3 of the least", x.rest(1, D, 0, 3), 1);
        due.is("rest by 10.0", x.rest(1, D, 1, d(10.0)), 1);
        due.is("rest by 4 of the least", x.rest(1, D, 2, 4), 1);
        due.is("rest by 2.5 of the least normal one", x.rest(1, D, 3, d(Double.MIN_NORMAL * 2.5)), 1);
        items(x, 1, D, Double.MAX_VALUE % (Double.MIN_VALUE * 3), -8.0, Double.MIN_VALUE * 3, Double.MIN_NORMAL * 0.5);
    }

    @Says(promise = 8, text = "-15 NONE if a is endless")
    private static void restOfTheEndless() {
        leavesNone(ENDLESS, 2.0);
        leavesNone(-ENDLESS, 2.0);
        leavesNone(ENDLESS, ENDLESS);
        leavesNone(-ENDLESS, 0.0);
    }

    @Says(promise = 8, text = "or b is 0.0, -0.0")
    private static void restByZero() {
        leavesNone(7.0, 0.0);
        leavesNone(7.0, -0.0);
        leavesNone(0.0, 0.0);
        leavesNone(-0.0, -0.0);
    }

    @Says(promise = 8, text = "-15 NONE if a is endless, or b is 0.0, -0.0")
    private static void restByTheEndlessIsSome() {
        leaves(7.0, ENDLESS, 7.0);
        leaves(-7.0, -ENDLESS, -7.0);
        leaves(-0.0, ENDLESS, -0.0);
        leaves(Float.MAX_VALUE, ENDLESS, Float.MAX_VALUE);
        leaves(1.5, Float.MIN_VALUE, 0.0);
    }

    @Says(promise = 8, text = "BAD; NULL; CAST; INDEX; NONE.")
    private static void restIsRefusedByTakingBeforeNone() {
        DialTrain x = readings(F, ENDLESS);
        due.is("of nothing, by 0.0", x.rest(EMPTY, F, 0, 0), NULL);
        due.is("of no such ROW, by 0.0", x.rest(0, D, 0, 0), CAST);
        due.is("of no such item, by 0.0", x.rest(0, F, 1, 0), INDEX);
        due.is("by 0.0", x.rest(0, F, 0, 0), NONE);
        refusals(x, 1, 1, 1, 0, 1);
    }

    @Says(promise = 9, text = "BAD -1 there is no such thing")
    private static void windInNoSuchSlot() {
        noSuchSlot(WIND);
    }

    @Says(promise = 9, text = "WITH A LANE (0, 1)")
    private static void windWithNoSuchLane() {
        noSuchLane(WIND);
    }

    @Says(promise = 9, text = "-11 NULL if it holds nothing")
    private static void windOfNothing() {
        nothingHeld(WIND);
    }

    @Says(promise = 9, text = "-12 CAST if that is no such ROW")
    private static void windOfNoSuchRow() {
        noSuchRow(WIND);
    }

    @Says(promise = 9, text = "INDEX: i is below 0 or above how many there are")
    private static void windFromNoSuchItem() {
        noSuchItem(WIND, 4);
        noItemsAtAll(WIND, 1);
    }

    @Says(promise = 9, text = "in this order")
    private static void windRefusedInOrder() {
        inThisOrder(WIND);
    }

    @Says(promise = 9, text = "INDEX: i is below 0 or above how many there are")
    private static void windFromBehindTheLastItem() {
        for (int lane = 0; lane < 2; lane++) {
            DialTrain x = readings(lane, 7.0, 8.0);
            due.is("from behind the last", x.wind(lane, lane, 2, bits(lane, 3.0)), 0);
            due.is("from behind the last, by 0.0", x.wind(lane, lane, 2, 0), 0);
            items(x, lane, lane, 7.0, 8.0);
            due.is("row of no items", x.row(lane, lane, 0), 1);
            due.is("of no items", x.wind(lane, lane, 0, bits(lane, 3.0)), 0);
            due.is("of no items, by -0.0", x.wind(lane, lane, 0, bits(lane, -0.0)), 0);
            refusals(x, 0, 0, 0, 0, 0);
        }
    }

    @Says(promise = 9, text = "BITS of no number are BAD")
    private static void windByNoNumber() {
        for (int lane = 0; lane < 2; lane++) {
            DialTrain x = readings(lane, 7.0, ENDLESS);
            for (long no : noNumbers(lane)) {
                due.is("wind by " + Long.toHexString(no), x.wind(lane, lane, 0, no), BAD);
                due.is("wind of nothing by it", x.wind(EMPTY, lane, 0, no), BAD);
                due.is("wind from behind the last by it", x.wind(lane, lane, 2, no), BAD);
                due.is("wind from below by it", x.wind(lane, lane, -1, no), BAD);
            }
            items(x, lane, lane, 7.0, ENDLESS);
            refusals(x, 0, 0, 0, 0, 0);
        }
    }

    @Says(promise = 9, text = "of a float the lowest 32 of a long count")
    private static void windByTheLowest32() {
        DialTrain x = readings(F, 7.5, -7.5);
        due.is("more above", x.wind(0, F, 0, 0xfff8000100000000L | f(2.0)), 2);
        items(x, 0, F, 1.5, -1.5);
        due.is("only above", x.wind(0, F, 0, d(1.0)), 0);
        items(x, 0, F, 1.5, -1.5);
    }

    @Says(promise = 9, text = "Items from i on, one by one")
    private static void windFromIOn() {
        for (int lane = 0; lane < 2; lane++) {
            long by = bits(lane, 3.0);
            DialTrain x = readings(lane, 4.0, 5.0, -7.0);
            due.is("from the last", x.wind(lane, lane, 2, by), 1);
            items(x, lane, lane, 4.0, 5.0, -1.0);
            due.is("from the middle", x.wind(lane, lane, 1, by), 2);
            items(x, lane, lane, 4.0, 2.0, -1.0);
            due.is("from the first", x.wind(lane, lane, 0, by), 3);
            items(x, lane, lane, 1.0, 2.0, -1.0);
            refusals(x, 0, 0, 0, 0, 0);
        }
    }

    @Says(promise = 9, text = "how many did")
    private static void windOfAFullRow() {
        for (int lane = 0; lane < 2; lane++) {
            double[] all = new double[24];
            double[] want = new double[24];
            for (int i = 0; i < 24; i++) {
                all[i] = i % 2 == 0 ? i + 0.5 : -i;
                want[i] = all[i] % 5.0;
            }
            DialTrain x = readings(lane, all);
            due.is("of 24 items", x.wind(lane, lane, 0, bits(lane, 5.0)), 24);
            items(x, lane, lane, want);
        }
    }

    @Says(promise = 9, text = "up to the first that is NONE")
    private static void windUpToAnEndlessOne() {
        for (int lane = 0; lane < 2; lane++) {
            long by = bits(lane, 3.0);
            DialTrain x = readings(lane, 4.0, ENDLESS, 5.0, -ENDLESS, 7.0);
            due.is("up to the second", x.wind(lane, lane, 0, by), 1);
            items(x, lane, lane, 1.0, ENDLESS, 5.0, -ENDLESS, 7.0);
            due.is("from an endless one", x.wind(lane, lane, 1, by), 0);
            due.is("up to the fourth", x.wind(lane, lane, 2, by), 1);
            items(x, lane, lane, 1.0, ENDLESS, 2.0, -ENDLESS, 7.0);
            due.is("from the last", x.wind(lane, lane, 4, by), 1);
            items(x, lane, lane, 1.0, ENDLESS, 2.0, -ENDLESS, 1.0);
            refusals(x, 0, 0, 0, 0, 3);
        }
    }

    @Says(promise = 9, text = "up to the first that is NONE")
    private static void windUpToAnEndlessOneAtTheEnd() {
        for (int lane = 0; lane < 2; lane++) {
            DialTrain x = readings(lane, 4.0, 5.0, ENDLESS);
            due.is("up to the last", x.wind(lane, lane, 0, bits(lane, 3.0)), 2);
            items(x, lane, lane, 1.0, 2.0, ENDLESS);
            refusals(x, 0, 0, 0, 0, 1);
        }
    }

    @Says(promise = 9, text = "-15 NONE if a is endless, or b is 0.0, -0.0")
    private static void windByZero() {
        for (int lane = 0; lane < 2; lane++) {
            DialTrain x = readings(lane, 4.0, 5.0);
            due.is("by 0.0", x.wind(lane, lane, 0, bits(lane, 0.0)), 0);
            due.is("by -0.0", x.wind(lane, lane, 1, bits(lane, -0.0)), 0);
            items(x, lane, lane, 4.0, 5.0);
            refusals(x, 0, 0, 0, 0, 2);
            due.is("by the endless", x.wind(lane, lane, 0, bits(lane, -ENDLESS)), 2);
            items(x, lane, lane, 4.0, 5.0);
            refusals(x, 0, 0, 0, 0, 2);
        }
    }

    @Says(promise = 10, text = "BAD -1 there is no such thing")
    private static void asInNoSuchSlot() {
        noSuchSlot(AS);
    }

    @Says(promise = 10, text = "WITH A LANE (0, 1)")
    private static void asWithNoSuchLane() {
        noSuchLane(AS);
    }

    @Says(promise = 10, text = "-11 NULL if it holds nothing")
    private static void asOfNothing() {
        nothingHeld(AS);
    }

    @Says(promise = 10, text = "-12 CAST if that is no such ROW")
    private static void asOfNoSuchRow() {
        noSuchRow(AS);
    }

    @Says(promise = 10, text = "-13 INDEX if there is no such item")
    private static void asOfNoSuchItem() {
        noSuchItem(AS, 3);
        noItemsAtAll(AS, 0);
    }

    @Says(promise = 10, text = "in this order")
    private static void asRefusedInOrder() {
        inThisOrder(AS);
    }

    @Says(promise = 10, text = "0: refused; failed().")
    private static void asRefusedIsZero() {
        DialTrain x = readings(D, 7.0);
        for (int how = 0; how <= 6; how++) {
            refusedAs(x, EMPTY, D, 0, how, NULL);
            refusedAs(x, 1, F, 0, how, CAST);
            refusedAs(x, 1, D, 1, how, INDEX);
            refusedAs(x, 1, 2, 0, how, BAD);
            refusedAs(x, 8, D, 0, how, BAD);
        }
        for (int how : new int[] {-1, 7, MIN, MAX}) {
            refusedAs(x, 1, D, 0, how, BAD);
            refusedAs(x, EMPTY, D, 0, how, BAD);
            refusedAs(x, 1, F, 0, how, BAD);
            refusedAs(x, 1, D, 1, how, BAD);
        }
        item(x, 1, D, 0, 7.0);
    }

    private static void cast(int lane, double a, int how, long want) {
        DialTrain x = readings(lane, a);
        due.is("as of " + a + " (LANE " + lane + "), how = " + how, x.as(lane, lane, 0, how), want);
        due.is("failed()", x.failed(), 0);
        item(x, lane, lane, 0, a);
    }

    private static void castOfBoth(double a, int how, long want) {
        cast(F, a, how, want);
        cast(D, a, how, want);
    }

    @Says(promise = 10, text = "how = 0 int")
    private static void asIntAtAndBeyondTheEnds() {
        cast(D, 2147483646.9, 0, MAX - 1);
        cast(D, 2147483647.0, 0, MAX);
        cast(D, 2147483647.9, 0, MAX);
        castOfBoth(2147483648.0, 0, MAX);
        castOfBoth(4294967296.0, 0, MAX);
        cast(D, -2147483647.9, 0, MIN + 1);
        castOfBoth(-2147483648.0, 0, MIN);
        cast(D, -2147483648.9, 0, MIN);
        cast(D, -2147483649.0, 0, MIN);
        castOfBoth(-4294967296.0, 0, MIN);
        castOfBoth(2147483520.0, 0, 2147483520);
        castOfBoth(-2147483520.0, 0, -2147483520);
        castOfBoth(ENDLESS, 0, MAX);
        castOfBoth(-ENDLESS, 0, MIN);
        castOfBoth(0x1.0p100, 0, MAX);
        castOfBoth(-0x1.0p100, 0, MIN);
    }

    @Says(promise = 10, text = "how = 0 int")
    private static void asIntIsCut() {
        castOfBoth(0.75, 0, 0);
        castOfBoth(-0.75, 0, 0);
        castOfBoth(-0.0, 0, 0);
        castOfBoth(2.5, 0, 2);
        castOfBoth(-2.5, 0, -2);
        castOfBoth(Float.MIN_VALUE, 0, 0);
        cast(D, Math.nextDown(3.0), 0, 2);
        cast(D, -Double.MIN_VALUE, 0, 0);
    }

    @Says(promise = 10, text = "1 long")
    private static void asLongAtAndBeyondTheEnds() {
        cast(D, 9223372036854774784.0, 1, 9223372036854774784L);
        castOfBoth(9223371487098961920.0, 1, 9223371487098961920L);
        castOfBoth(0x1.0p63, 1, LONG_MAX);
        castOfBoth(0x1.0p64, 1, LONG_MAX);
        cast(D, -9223372036854774784.0, 1, -9223372036854774784L);
        castOfBoth(-0x1.0p63, 1, LONG_MIN);
        cast(D, -9223372036854777856.0, 1, LONG_MIN);
        castOfBoth(-0x1.0p64, 1, LONG_MIN);
        castOfBoth(ENDLESS, 1, LONG_MAX);
        castOfBoth(-ENDLESS, 1, LONG_MIN);
        castOfBoth(4294967296.0, 1, 4294967296L);
        castOfBoth(-2.5, 1, -2);
        cast(D, Double.MAX_VALUE, 1, LONG_MAX);
        cast(D, -Double.MAX_VALUE, 1, LONG_MIN);
    }

    @Says(promise = 10, text = "2 byte, 3 short, 4 char (by int)")
    private static void asByteByInt() {
        castOfBoth(127.9, 2, 127);
        castOfBoth(128.0, 2, -128);
        castOfBoth(255.0, 2, -1);
        castOfBoth(256.0, 2, 0);
        castOfBoth(-128.9, 2, -128);
        castOfBoth(-129.0, 2, 127);
        castOfBoth(2147483648.0, 2, -1);
        castOfBoth(-2147483648.0, 2, 0);
        cast(D, 4294967301.0, 2, -1);
        cast(D, -4294967301.0, 2, 0);
        castOfBoth(ENDLESS, 2, -1);
        castOfBoth(-ENDLESS, 2, 0);
    }

    @Says(promise = 10, text = "2 byte, 3 short, 4 char (by int)")
    private static void asShortByInt() {
        castOfBoth(32767.5, 3, 32767);
        castOfBoth(32768.0, 3, -32768);
        castOfBoth(65535.0, 3, -1);
        castOfBoth(65536.0, 3, 0);
        castOfBoth(-32768.5, 3, -32768);
        castOfBoth(-32769.0, 3, 32767);
        castOfBoth(2147483648.0, 3, -1);
        castOfBoth(-2147483648.0, 3, 0);
        cast(D, 4294967301.0, 3, -1);
        cast(D, -4294967301.0, 3, 0);
        castOfBoth(ENDLESS, 3, -1);
        castOfBoth(-ENDLESS, 3, 0);
    }

    @Says(promise = 10, text = "2 byte, 3 short, 4 char (by int)")
    private static void asCharByInt() {
        castOfBoth(65535.5, 4, 65535);
        castOfBoth(65536.0, 4, 0);
        castOfBoth(65537.0, 4, 1);
        castOfBoth(-0.5, 4, 0);
        castOfBoth(-1.0, 4, 65535);
        castOfBoth(-65536.0, 4, 0);
        castOfBoth(2147483648.0, 4, 65535);
        castOfBoth(-2147483648.0, 4, 0);
        cast(D, 4294967301.0, 4, 65535);
        cast(D, -4294967301.0, 4, 0);
        castOfBoth(ENDLESS, 4, 65535);
        castOfBoth(-ENDLESS, 4, 0);
    }

    @Says(promise = 10, text = "5 the BITS of a float")
    private static void asFloatAtAndBeyondTheEnds() {
        castOfBoth(Float.MAX_VALUE, 5, 0x7f7fffffL);
        cast(D, 3.4028235677973362E38, 5, 0x7f7fffffL);
        cast(D, 3.4028235677973366E38, 5, 0x7f800000L);
        cast(D, -3.4028235677973366E38, 5, 0xff800000L);
        cast(D, Double.MAX_VALUE, 5, 0x7f800000L);
        castOfBoth(ENDLESS, 5, 0x7f800000L);
        castOfBoth(-ENDLESS, 5, 0xff800000L);
        castOfBoth(Float.MIN_VALUE, 5, 1);
        cast(D, Float.MIN_VALUE / 2.0, 5, 0);
        cast(D, Math.nextUp(Float.MIN_VALUE / 2.0), 5, 1);
        cast(D, -Float.MIN_VALUE / 2.0, 5, 0x80000000L);
        cast(D, Double.MIN_VALUE, 5, 0);
        cast(D, -Double.MIN_VALUE, 5, 0x80000000L);
        castOfBoth(-0.0, 5, 0x80000000L);
        castOfBoth(Float.MIN_NORMAL, 5, 0x00800000L);
        cast(D, Float.MIN_NORMAL - Float.MIN_VALUE / 2.0, 5, 0x00800000L);
    }

    @Says(promise = 10, text = "5 the BITS of a float")
    private static void asFloatIsRounded() {
        cast(D, 16777217.0, 5, f(16777216.0));
        cast(D, 16777219.0, 5, f(16777220.0));
        cast(D, Math.nextUp(16777217.0), 5, f(16777218.0));
        cast(D, 0.1, 5, 0x3dcccccdL);
        cast(D, -0.1, 5, 0xbdcccccdL);
    }

    @Says(promise = 10, text = "6 of a double")
    private static void asDouble() {
        castOfBoth(-0.0, 6, LONG_MIN);
        castOfBoth(ENDLESS, 6, 0x7ff0000000000000L);
        castOfBoth(-ENDLESS, 6, 0xfff0000000000000L);
        castOfBoth(Float.MAX_VALUE, 6, 0x47efffffe0000000L);
        castOfBoth(Float.MIN_VALUE, 6, 0x36a0000000000000L);
        castOfBoth(Float.MIN_NORMAL - Float.MIN_VALUE, 6, 0x380fffffc0000000L);
        cast(F, 0.1, 6, 0x3fb99999a0000000L);
        cast(D, 0.1, 6, 0x3fb999999999999aL);
        cast(D, Double.MIN_VALUE, 6, 1);
        cast(D, Double.MAX_VALUE, 6, 0x7fefffffffffffffL);
    }

    /** From the least power of two that a lane has to the greatest, 24 in a ROW. */
    private static void castOfEachPower(int lane, int least, int greatest, int how) {
        for (int first = least; first <= greatest; first += 24) {
            double[] all = new double[Math.min(24, greatest - first + 1)];
            for (int i = 0; i < all.length; i++) {
                all[i] = (i % 2 == 0 ? 1.0 : -1.0) * Math.scalb(1.0, first + i);
            }
            DialTrain x = readings(lane, all);
            for (int i = 0; i < all.length; i++) {
                due.is("as of " + all[i] + ", how = " + how, x.as(lane, lane, i, how), how == 5 ? f(all[i]) : d(all[i]));
            }
        }
    }

    @Says(promise = 10, text = "5 the BITS of a float")
    private static void asFloatOfEachPower() {
        castOfEachPower(F, -149, 127, 5);
        castOfEachPower(D, -1074, 1023, 5);
    }

    @Says(promise = 10, text = "6 of a double")
    private static void asDoubleOfEachPower() {
        castOfEachPower(F, -149, 127, 6);
        castOfEachPower(D, -1074, 1023, 6);
    }

    @Says(promise = 11, text = "BAD -1 there is no such thing")
    private static void wholeInNoSuchSlot() {
        noSuchSlot(WHOLE);
    }

    @Says(promise = 11, text = "WITH A LANE (0, 1)")
    private static void wholeWithNoSuchLane() {
        noSuchLane(WHOLE);
    }

    @Says(promise = 11, text = "-11 NULL if it holds nothing")
    private static void wholeInNothing() {
        nothingHeld(WHOLE);
    }

    @Says(promise = 11, text = "-12 CAST if that is no such ROW")
    private static void wholeInNoSuchRow() {
        noSuchRow(WHOLE);
    }

    @Says(promise = 11, text = "-13 INDEX if there is no such item")
    private static void wholeInNoSuchItem() {
        noSuchItem(WHOLE, 3);
        noItemsAtAll(WHOLE, 0);
    }

    @Says(promise = 11, text = "in this order")
    private static void wholeRefusedInOrder() {
        inThisOrder(WHOLE);
    }

    @Says(promise = 11, text = "BAD; NULL; CAST; INDEX.")
    private static void wholeByNoSuchHow() {
        DialTrain x = readings(D, 7.0);
        for (int how : new int[] {-1, 4, MIN, MAX}) {
            due.is("how = " + how, x.whole(1, D, 0, 1, how), BAD);
            due.is("how = " + how + ", in nothing", x.whole(EMPTY, D, 0, 1, how), BAD);
            due.is("how = " + how + ", no such ROW", x.whole(1, F, 0, 1, how), BAD);
            due.is("how = " + how + ", no such item", x.whole(1, D, 1, 1, how), BAD);
        }
        item(x, 1, D, 0, 7.0);
        refusals(x, 0, 0, 0, 0, 0);
    }

    private static void whole(int how, long v, double asFloat, double asDouble) {
        for (int lane = 0; lane < 2; lane++) {
            DialTrain x = readings(lane, -5.0, -0.0, -5.0);
            due.is("whole of " + v + " (LANE " + lane + "), how = " + how, x.whole(lane, lane, 1, v, how), 1);
            items(x, lane, lane, -5.0, lane == F ? asFloat : asDouble, -5.0);
        }
    }

    @Says(promise = 11, text = "how = 0 the long v")
    private static void wholeOfALong() {
        whole(0, 0, 0.0, 0.0);
        whole(0, -1, -1.0, -1.0);
        whole(0, LONG_MAX, 0x1.0p63, 0x1.0p63);
        whole(0, LONG_MIN, -0x1.0p63, -0x1.0p63);
        whole(0, 16777216, 16777216.0, 16777216.0);
        whole(0, 16777217, 16777216.0, 16777217.0);
        whole(0, 16777219, 16777220.0, 16777219.0);
        whole(0, 9007199254740993L, 0x1.0p53, 0x1.0p53);
        whole(0, 9007199254740995L, 0x1.0p53, 9007199254740996.0);
        whole(0, 0x7ffffffffffffdffL, 0x1.0p63, 9223372036854774784.0);
        // straight to a float it is above the middle of two; by a double it would come to the middle
        whole(0, 0x4000004000000001L, 0x1.000002p62, 0x1.000001p62);
    }

    @Says(promise = 11, text = "1 v as an int first")
    private static void wholeOfAnIntFirst() {
        whole(1, MAX, 0x1.0p31, 2147483647.0);
        whole(1, 2147483648L, -0x1.0p31, -0x1.0p31);
        whole(1, MIN, -0x1.0p31, -0x1.0p31);
        whole(1, -2147483649L, 0x1.0p31, 2147483647.0);
        whole(1, 4294967295L, -1.0, -1.0);
        whole(1, 4294967296L, 0.0, 0.0);
        whole(1, 4294967297L, 1.0, 1.0);
        whole(1, LONG_MAX, -1.0, -1.0);
        whole(1, LONG_MIN, 0.0, 0.0);
        whole(1, 16777217, 16777216.0, 16777217.0);
    }

    @Says(promise = 11, text = "2 v as a float first")
    private static void wholeOfAFloatFirst() {
        whole(2, 0, 0.0, 0.0);
        whole(2, 16777216, 16777216.0, 16777216.0);
        whole(2, 16777217, 16777216.0, 16777216.0);
        whole(2, -16777219, -16777220.0, -16777220.0);
        whole(2, LONG_MAX, 0x1.0p63, 0x1.0p63);
        whole(2, LONG_MIN, -0x1.0p63, -0x1.0p63);
        whole(2, 0x4000004000000001L, 0x1.000002p62, 0x1.000002p62);
    }

    @Says(promise = 11, text = "3 v as a double first")
    private static void wholeOfADoubleFirst() {
        whole(3, 0, 0.0, 0.0);
        whole(3, 9007199254740992L, 0x1.0p53, 0x1.0p53);
        whole(3, 9007199254740993L, 0x1.0p53, 0x1.0p53);
        whole(3, -9007199254740995L, -0x1.0p53, -9007199254740996.0);
        whole(3, LONG_MAX, 0x1.0p63, 0x1.0p63);
        whole(3, LONG_MIN, -0x1.0p63, -0x1.0p63);
        whole(3, 0x4000004000000001L, 0x1.0p62, 0x1.000001p62);
    }

    @Says(promise = 12, text = "BAD -1 there is no such thing")
    private static void moveFromAndToNoSuchSlot() {
        noSuchSlot(MOVE_FROM);
        noSuchSlot(MOVE_TO);
    }

    @Says(promise = 12, text = "WITH A LANE (0, 1)")
    private static void moveWithNoSuchLane() {
        noSuchLane(MOVE_FROM);
        noSuchLane(MOVE_TO);
    }

    @Says(promise = 12, text = "-11 NULL if it holds nothing")
    private static void moveFromAndToNothing() {
        nothingHeld(MOVE_FROM);
        nothingHeld(MOVE_TO);
    }

    @Says(promise = 12, text = "-12 CAST if that is no such ROW")
    private static void moveFromAndToNoSuchRow() {
        noSuchRow(MOVE_FROM);
        noSuchRow(MOVE_TO);
    }

    @Says(promise = 12, text = "-13 INDEX if there is no such item")
    private static void moveFromAndToNoSuchItem() {
        noSuchItem(MOVE_FROM, 3);
        noItemsAtAll(MOVE_FROM, 0);
        noSuchItem(MOVE_TO, 3);
        noItemsAtAll(MOVE_TO, 0);
    }

    @Says(promise = 12, text = "in this order")
    private static void moveRefusedInOrder() {
        inThisOrder(MOVE_FROM);
        inThisOrder(MOVE_TO);
    }

    @Says(promise = 12, text = "the first one first")
    private static void moveTakesTheFirstOneFirst() {
        DialTrain x = rows();
        due.is("no such item, to nothing", x.move(0, F, 3, EMPTY, D, 0), INDEX);
        due.is("no such item, to no such ROW", x.move(0, F, -1, 2, D, 0), INDEX);
        due.is("of no such ROW, to nothing", x.move(1, F, 0, EMPTY, D, 0), CAST);
        due.is("of no such ROW, to no such item", x.move(2, F, 0, 1, D, 3), CAST);
        due.is("of nothing, to no such ROW", x.move(EMPTY, F, 0, 0, D, 0), NULL);
        due.is("of nothing, to no such item", x.move(EMPTY, F, 0, 1, D, 3), NULL);
        refusals(x, 2, 2, 2, 0, 0);
    }

    @Says(promise = 12, text = "BAD; NULL; CAST; INDEX.")
    private static void moveIsBadBeforeTheFirstIsTaken() {
        DialTrain x = rows();
        for (int no : NO_SLOTS) {
            due.is("of nothing, to no such SLOT", x.move(EMPTY, F, 0, no, D, 0), BAD);
            due.is("no such item, to no such SLOT", x.move(0, F, 3, no, D, 0), BAD);
        }
        for (int no : NO_LANES) {
            due.is("of nothing, to no such LANE", x.move(EMPTY, F, 0, 1, no, 0), BAD);
            due.is("of no such ROW, to no such LANE", x.move(2, F, 0, 1, no, 0), BAD);
        }
        refusals(x, 0, 0, 0, 0, 0);
    }

    private static void moved(double a, double asFloat) {
        DialTrain x = readings(D, 9.0, a, 9.0);
        due.is("row(0, 0, 3)", x.row(0, F, 3), 1);
        due.is("move of " + a + " to FLOATS", x.move(1, D, 1, 0, F, 2), 1);
        items(x, 0, F, 0.0, 0.0, asFloat);
        due.is("move of it back to DOUBLES", x.move(0, F, 2, 1, D, 0), 1);
        items(x, 1, D, asFloat, a, 9.0);
    }

    @Says(promise = 12, text = "by the machine's cast: 1.")
    private static void moveByTheCastToTheOtherLane() {
        moved(0.1, 0.1f);
        moved(-0.0, -0.0);
        moved(ENDLESS, ENDLESS);
        moved(-ENDLESS, -ENDLESS);
        moved(3.4028235677973362E38, Float.MAX_VALUE);
        moved(3.4028235677973366E38, ENDLESS);
        moved(-1e300, -ENDLESS);
        moved(Float.MIN_VALUE / 2.0, 0.0);
        moved(-Float.MIN_VALUE / 2.0, -0.0);
        moved(Float.MIN_VALUE * 0.75, Float.MIN_VALUE);
        moved(-Double.MIN_VALUE, -0.0);
        moved(16777217.0, 16777216.0);
        moved(16777219.0, 16777220.0);
    }

    @Says(promise = 12, text = "comes to place j of another one")
    private static void moveToTheSameLane() {
        for (int lane = 0; lane < 2; lane++) {
            DialTrain x = readings(lane, -0.0, Float.MIN_VALUE, -ENDLESS);
            due.is("row(6, .., 3)", x.row(6, lane, 3), 1);
            due.is("the first to the last", x.move(lane, lane, 0, 6, lane, 2), 1);
            due.is("the last to the first", x.move(lane, lane, 2, 6, lane, 0), 1);
            due.is("the middle to the middle", x.move(lane, lane, 1, 6, lane, 1), 1);
            items(x, 6, lane, -ENDLESS, Float.MIN_VALUE, -0.0);
        }
        DialTrain x = readings(D, Double.MIN_VALUE, -Double.MAX_VALUE);
        due.is("row(6, 1, 2)", x.row(6, D, 2), 1);
        due.is("of the least", x.move(1, D, 0, 6, D, 1), 1);
        due.is("of the one furthest below", x.move(1, D, 1, 6, D, 0), 1);
        items(x, 6, D, -Double.MAX_VALUE, Double.MIN_VALUE);
    }

    @Says(promise = 12, text = "Two SLOTS may hold the very same ROW.")
    private static void moveWithinOneRow() {
        for (int lane = 0; lane < 2; lane++) {
            DialTrain x = readings(lane, 1.0, 2.0, 3.0);
            due.is("hold(.., 6)", x.hold(lane, 6), 1);
            due.is("to the other SLOT", x.move(lane, lane, 0, 6, lane, 2), 1);
            item(x, lane, lane, 2, 1.0);
            due.is("to its own place", x.move(lane, lane, 1, 6, lane, 1), 1);
            item(x, lane, lane, 1, 2.0);
        }
    }
}
