/** The edges of promises 14 to 19: WHEELS, RATCHETS and SPINDLES; a test for each sentence. */
public final class WheelEdgesTest extends Bench {
    private static final int[] NO_TEETH = {0, -1, 1000001, MIN, MAX};

    /** A call on place i of the SPINDLE in a SLOT: 0 or more if it was done, else the refusal. */
    private interface Reaching {
        long answer(DialTrain x, int slot, int i);
    }

    private static final Reaching LAY = (x, slot, i) -> x.lay(slot, i, 1);
    private static final Reaching TURN = (x, slot, i) -> x.turn(slot, i, d(1.0));
    private static final Reaching ANGLE = (x, slot, i) -> zeroAndWhy(x, x.angle(slot, i));
    private static final Reaching CLICKS = (x, slot, i) -> zeroAndWhy(x, x.clicks(slot, i));

    public static void main(String[] args) {
        runAll(WheelEdgesTest.class);
    }

    /** No WHEEL is turned in these tests but by turn(), so that 0 is due whether or not it was refused. */
    private static long zeroAndWhy(DialTrain x, long answer) {
        due.is("the answer", answer, 0);
        return x.failed();
    }

    private static String at(int slot, int i) {
        return "SLOT " + slot + ", place " + i;
    }

    private static void noSuchSlot(Reaching call) {
        DialTrain x = spindles();
        for (int no : NO_SLOTS) {
            due.is(at(no, 0), call.answer(x, no, 0), BAD);
            due.is(at(no, -1), call.answer(x, no, -1), BAD);
        }
        refusals(x, 0, 0, 0, 0, 0);
    }

    private static void nothingHeld(Reaching call) {
        DialTrain x = spindles();
        for (int i : new int[] {0, -1, 3, 24}) {
            due.is(at(EMPTY, i), call.answer(x, EMPTY, i), NULL);
        }
        refusals(x, 4, 0, 0, 0, 0);
    }

    private static void noSuchRow(Reaching call) {
        DialTrain x = spindles();
        for (int i : new int[] {0, -1, 3, 24}) {
            due.is(at(0, i), call.answer(x, 0, i), CAST);
            due.is(at(1, i), call.answer(x, 1, i), CAST);
        }
        refusals(x, 0, 8, 0, 0, 0);
    }

    private static void noSuchPlace(Reaching call) {
        DialTrain x = spindles();
        due.is("row(6, 2, 0)", x.row(6, SPINDLE, 0), 1);
        for (int slot = 2; slot < 4; slot++) {
            for (int i : new int[] {-1, 3, 24, MIN, MAX}) {
                due.is(at(slot, i), call.answer(x, slot, i), INDEX);
            }
        }
        due.is("of no places", call.answer(x, 6, 0), INDEX);
        due.is("of no places, below", call.answer(x, 6, -1), INDEX);
        refusals(x, 0, 0, 12, 0, 0);
    }

    private static void noneThere(Reaching call) {
        DialTrain x = spindles();
        due.is(at(2, 2), call.answer(x, 2, 2), NULL);
        due.is(at(3, 1), call.answer(x, 3, 1), NULL);
        due.is("lay(2, 1, -1)", x.lay(2, 1, -1), 1);
        due.is("taken away", call.answer(x, 2, 1), NULL);
        due.is("lay(3, 0, 5)", x.lay(3, 0, 5), 1);
        due.is("one that is not there", call.answer(x, 3, 0), NULL);
        refusals(x, 4, 0, 0, 0, 0);
    }

    private static void onTheFastSpindleToo(Reaching call) {
        DialTrain x = spindles();
        due.is("lay(3, 2, 1)", x.lay(3, 2, 1), 1);
        due.is("the first place", call.answer(x, 3, 0) >= 0 ? 1 : 0, 1);
        due.is("the last place", call.answer(x, 3, 2) >= 0 ? 1 : 0, 1);
        refusals(x, 0, 0, 0, 0, 0);
    }

    private static void inThisOrder(Reaching call) {
        DialTrain x = spindles();
        due.is("nothing there, nor such a place", call.answer(x, EMPTY, 99), NULL);
        due.is("no SPINDLE, nor such a place", call.answer(x, 1, 99), CAST);
        due.is("no such place", call.answer(x, 2, 99), INDEX);
        refusals(x, 1, 1, 1, 0, 0);
    }

    @Says(promise = 14, text = "WHEELS 0 .. 5 are there or not (at first)")
    private static void wheelsFromTheFirstToTheLast() {
        DialTrain x = new DialTrain();
        due.is("row(0, 2, 6)", x.row(0, SPINDLE, 6), 1);
        for (int k = 0; k < 6; k++) {
            due.is("wheel(" + k + ", 0, 10)", x.wheel(k, WHEEL, 10), 1);
            due.is("lay(0, k, k)", x.lay(0, k, k), 1);
        }
        for (int k = 0; k < 6; k++) {
            due.is("turn(0, k, ..)", x.turn(0, k, d(k)), 1);
        }
        for (int k = 0; k < 6; k++) {
            turned(x, 0, k, k);
        }
        for (int no : new int[] {-1, 6, MIN, MAX}) {
            due.is("wheel(" + no + ", 0, 10)", x.wheel(no, WHEEL, 10), BAD);
        }
        due.is("count(1)", x.count(1), 6);
    }

    @Says(promise = 14, text = "a KIND (0 WHEEL, 1 RATCHET)")
    private static void wheelOfEachKindAndOfNone() {
        DialTrain x = oneWheel(WHEEL, 10);
        refusedClicks(x, 0, 0, CAST);
        for (int no : new int[] {-1, 2, MIN, MAX}) {
            due.is("wheel(0, " + no + ", 10)", x.wheel(0, no, 10), BAD);
            due.is("wheel(1, " + no + ", 10)", x.wheel(1, no, 10), BAD);
        }
        due.is("count(1)", x.count(1), 1);
        due.is("lay(0, 0, 1)", x.lay(0, 0, 1), 1);
        refusedClicks(x, 0, 0, NULL);
        clicked(oneWheel(RATCHET, 10), 0, 0, 0);
    }

    @Says(promise = 14, text = "TEETH (1 .. 1000000)")
    private static void wheelOfTheFewestTeeth() {
        for (int kind = 0; kind < 2; kind++) {
            DialTrain x = oneWheel(kind, 1);
            due.is("turn by 0.75", x.turn(0, 0, d(0.75)), 1);
            turned(x, 0, 0, 0.75);
            due.is("turn by 0.5", x.turn(0, 0, d(0.5)), 1);
            turned(x, 0, 0, 0.25);
        }
    }

    @Says(promise = 14, text = "TEETH (1 .. 1000000)")
    private static void wheelOfTheMostTeeth() {
        for (int kind = 0; kind < 2; kind++) {
            DialTrain x = oneWheel(kind, 1000000);
            due.is("turn by 999999.5", x.turn(0, 0, d(999999.5)), 1);
            turned(x, 0, 0, 999999.5);
            due.is("turn by 0.75", x.turn(0, 0, d(0.75)), 1);
            turned(x, 0, 0, 0.25);
        }
    }

    @Says(promise = 14, text = "BAD: KIND, TEETH.")
    private static void wheelOfTooFewOrTooManyTeeth() {
        DialTrain x = oneWheel(RATCHET, 10);
        for (int teeth : NO_TEETH) {
            for (int kind = 0; kind < 2; kind++) {
                due.is("wheel(0, " + kind + ", " + teeth + ")", x.wheel(0, kind, teeth), BAD);
                due.is("wheel(5, " + kind + ", " + teeth + ")", x.wheel(5, kind, teeth), BAD);
            }
        }
        due.is("count(1)", x.count(1), 1);
        due.is("lay(0, 0, 5)", x.lay(0, 0, 5), 1);
        refusedAngle(x, 0, 0, NULL);
        refusals(x, 1, 0, 0, 0, 0);
    }

    @Says(promise = 14, text = "an ANGLE (a double, 0.0 at first), CLICKS (a long, 0)")
    private static void wheelBeginsAtZero() {
        for (int kind = 0; kind < 2; kind++) {
            turned(oneWheel(kind, 1), 0, 0, 0.0);
            turned(oneWheel(kind, 1000000), 0, 0, 0.0);
        }
        clicked(oneWheel(RATCHET, 1), 0, 0, 0);
    }

    @Says(promise = 14, text = "WHEEL k is a new one: 1.")
    private static void wheelMadeAgainIsNew() {
        DialTrain x = oneWheel(RATCHET, 10);
        due.is("turn by 25.0", x.turn(0, 0, d(25.0)), 1);
        due.is("wheel(0, 1, 7)", x.wheel(0, RATCHET, 7), 1);
        due.is("count(1)", x.count(1), 2);
        due.is("lay(0, 0, 0)", x.lay(0, 0, 0), 1);
        turned(x, 0, 0, 0.0);
        clicked(x, 0, 0, 0);
        due.is("turn by 8.0", x.turn(0, 0, d(8.0)), 1);
        turned(x, 0, 0, 1.0);
        due.is("wheel(0, 0, 7)", x.wheel(0, WHEEL, 7), 1);
        due.is("lay(0, 0, 0)", x.lay(0, 0, 0), 1);
        refusedClicks(x, 0, 0, CAST);
    }

    @Says(promise = 15, text = "BAD -1 there is no such thing")
    private static void layInNoSuchSlot() {
        noSuchSlot(LAY);
    }

    @Says(promise = 15, text = "WHEELS 0 .. 5")
    private static void layOfNoSuchWheel() {
        DialTrain x = spindles();
        for (int no : new int[] {-2, 6, MIN, MAX}) {
            due.is("lay(2, 1, " + no + ")", x.lay(2, 1, no), BAD);
            due.is("lay(3, 0, " + no + ")", x.lay(3, 0, no), BAD);
            due.is("lay(7, 0, " + no + ")", x.lay(EMPTY, 0, no), BAD);
            due.is("lay(1, 0, " + no + ")", x.lay(1, 0, no), BAD);
            due.is("lay(2, 3, " + no + ")", x.lay(2, 3, no), BAD);
        }
        clicked(x, 2, 1, 0);
        clicked(x, 3, 0, 0);
        refusals(x, 0, 0, 0, 0, 0);
    }

    @Says(promise = 15, text = "-11 NULL if it holds nothing")
    private static void layInNothing() {
        nothingHeld(LAY);
    }

    @Says(promise = 15, text = "-12 CAST if that is no such ROW")
    private static void layInNoSpindle() {
        noSuchRow(LAY);
    }

    @Says(promise = 15, text = "-13 INDEX if there is no such item")
    private static void layInNoSuchPlace() {
        noSuchPlace(LAY);
    }

    @Says(promise = 15, text = "in this order")
    private static void layRefusedInOrder() {
        inThisOrder(LAY);
    }

    @Says(promise = 15, text = "a FAST SPINDLE is a SPINDLE, too")
    private static void layOnAFastSpindle() {
        onTheFastSpindleToo(LAY);
    }

    @Says(promise = 15, text = "-1: none")
    private static void layOfNone() {
        DialTrain x = spindles();
        due.is("lay(2, 0, -1)", x.lay(2, 0, -1), 1);
        refusedAngle(x, 2, 0, NULL);
        due.is("lay(2, 0, -1) again", x.lay(2, 0, -1), 1);
        due.is("lay(3, 0, -1)", x.lay(3, 0, -1), 1);
        refusedAngle(x, 3, 0, NULL);
        turned(x, 2, 1, 0.0);
        due.is("lay(7, 0, -1)", x.lay(EMPTY, 0, -1), NULL);
        due.is("lay(0, 0, -1)", x.lay(0, 0, -1), CAST);
        due.is("lay(2, 3, -1)", x.lay(2, 3, -1), INDEX);
        refusals(x, 3, 1, 1, 0, 0);
    }

    @Says(promise = 15, text = "also one that is not there")
    private static void layOfOneThatIsNotThere() {
        DialTrain x = spindles();
        due.is("lay(2, 0, 5)", x.lay(2, 0, 5), 1);
        refusedAngle(x, 2, 0, NULL);
        due.is("lay(3, 0, 2)", x.lay(3, 0, 2), 1);
        refusedAngle(x, 3, 0, NULL);
        due.is("wheel(5, 0, 4)", x.wheel(5, WHEEL, 4), 1);
        refusedAngle(x, 2, 0, NULL);
        due.is("lay(2, 0, 5)", x.lay(2, 0, 5), 1);
        turned(x, 2, 0, 0.0);
        refusals(x, 3, 0, 0, 0, 0);
    }

    @Says(promise = 15, text = "STORE: a FAST SPINDLE and no RATCHET")
    private static void layOfAWheelOnAFastSpindle() {
        DialTrain x = spindles();
        due.is("turn(3, 0, ..)", x.turn(3, 0, d(12.0)), 1);
        due.is("lay(3, 0, 0)", x.lay(3, 0, 0), STORE);
        due.is("lay(3, 2, 0)", x.lay(3, 2, 0), STORE);
        turned(x, 3, 0, 2.0);
        clicked(x, 3, 0, 1);
        refusedAngle(x, 3, 2, NULL);
        due.is("lay(2, 2, 0), on a SPINDLE", x.lay(2, 2, 0), 1);
        due.is("lay(3, 2, 1), a RATCHET", x.lay(3, 2, 1), 1);
        due.is("lay(2, 0, 1), a RATCHET on a SPINDLE", x.lay(2, 0, 1), 1);
        refusals(x, 1, 0, 0, 2, 0);
        due.is("wheel(1, 0, 5)", x.wheel(1, WHEEL, 5), 1);
        due.is("lay(3, 1, 1), no RATCHET any more", x.lay(3, 1, 1), STORE);
        due.is("wheel(0, 1, 5)", x.wheel(0, RATCHET, 5), 1);
        due.is("lay(3, 1, 0), a RATCHET now", x.lay(3, 1, 0), 1);
        refusals(x, 1, 0, 0, 3, 0);
    }

    @Says(promise = 15, text = "BAD; NULL; CAST; INDEX; STORE: a FAST SPINDLE and no RATCHET.")
    private static void layIsRefusedByItsPlaceBeforeStore() {
        DialTrain x = spindles();
        due.is("lay(3, 3, 0)", x.lay(3, 3, 0), INDEX);
        due.is("lay(3, -1, 0)", x.lay(3, -1, 0), INDEX);
        refusals(x, 0, 0, 2, 0, 0);
    }

    @Says(promise = 15, text = "Place i of a SPINDLE gets WHEEL k")
    private static void layOfOneWheelInManyPlaces() {
        DialTrain x = spindles();
        for (int i = 0; i < 3; i++) {
            due.is("lay(2, " + i + ", 1)", x.lay(2, i, 1), 1);
            due.is("lay(3, " + i + ", 1)", x.lay(3, i, 1), 1);
        }
        due.is("turn(2, 2, ..)", x.turn(2, 2, d(13.0)), 1);
        for (int i = 0; i < 3; i++) {
            turned(x, 2, i, 3.0);
            clicked(x, 3, i, 1);
        }
    }

    @Says(promise = 16, text = "BAD -1 there is no such thing")
    private static void turnInNoSuchSlot() {
        noSuchSlot(TURN);
    }

    @Says(promise = 16, text = "-11 NULL if it holds nothing")
    private static void turnInNothing() {
        nothingHeld(TURN);
    }

    @Says(promise = 16, text = "-12 CAST if that is no such ROW")
    private static void turnInNoSpindle() {
        noSuchRow(TURN);
    }

    @Says(promise = 16, text = "-13 INDEX if there is no such item")
    private static void turnInNoSuchPlace() {
        noSuchPlace(TURN);
    }

    @Says(promise = 16, text = "in this order")
    private static void turnRefusedInOrder() {
        inThisOrder(TURN);
    }

    @Says(promise = 16, text = "a FAST SPINDLE is a SPINDLE, too")
    private static void turnOnAFastSpindle() {
        onTheFastSpindleToo(TURN);
    }

    @Says(promise = 16, text = "NULL (also where there is none)")
    private static void turnOfNone() {
        noneThere(TURN);
    }

    @Says(promise = 16, text = "BITS of no number are BAD")
    private static void turnByNoNumber() {
        DialTrain x = spindles();
        for (long no : NO_DOUBLES) {
            for (int slot : new int[] {0, 2, 3, EMPTY}) {
                due.is("turn(" + slot + ", 0, ..)", x.turn(slot, 0, no), BAD);
                due.is("turn(" + slot + ", 3, ..)", x.turn(slot, 3, no), BAD);
            }
            due.is("turn of none", x.turn(2, 2, no), BAD);
        }
        turned(x, 2, 0, 0.0);
        clicked(x, 3, 0, 0);
        refusals(x, 0, 0, 0, 0, 0);
    }

    @Says(promise = 16, text = "(BITS of a double)")
    private static void turnByAllOfTheBits() {
        DialTrain x = oneWheel(WHEEL, 10);
        due.is("turn by what is no number as a float", x.turn(0, 0, 0x400000007fc00000L), 1);
        due.is("angle(0, 0)", x.angle(0, 0), 0x400000007fc00000L);
    }

    @Says(promise = 16, text = "NONE if x is endless")
    private static void turnByTheEndless() {
        for (int kind = 0; kind < 2; kind++) {
            DialTrain x = oneWheel(kind, 10);
            due.is("turn by 12.5", x.turn(0, 0, d(12.5)), 1);
            due.is("turn by the endless", x.turn(0, 0, d(ENDLESS)), NONE);
            due.is("turn by the endless below", x.turn(0, 0, d(-ENDLESS)), NONE);
            turned(x, 0, 0, 2.5);
            if (kind == RATCHET) {
                clicked(x, 0, 0, 1);
            }
            refusals(x, 0, 0, 0, 0, 2);
        }
    }

    @Says(promise = 16, text = "BAD; NULL (also where there is none); CAST; INDEX; NONE.")
    private static void turnIsRefusedByItsPlaceBeforeNone() {
        DialTrain x = spindles();
        long endless = d(ENDLESS);
        due.is("in nothing", x.turn(EMPTY, 0, endless), NULL);
        due.is("in DOUBLES", x.turn(1, 0, endless), CAST);
        due.is("in no such place", x.turn(2, 3, endless), INDEX);
        due.is("of none", x.turn(2, 2, endless), NULL);
        due.is("of a WHEEL", x.turn(2, 0, endless), NONE);
        refusals(x, 2, 1, 1, 0, 1);
    }

    @Says(promise = 16, text = "the ANGLE becomes what is left of ANGLE and x by TEETH")
    private static void turnOfAWheelGoesRound() {
        DialTrain x = oneWheel(WHEEL, 10);
        double[] by = {10.0, 9.5, 0.5, -10.0, -0.5, -9.5, 0.0, 30.0, -3.0, 5.0, -2.0, 1e6, -0.0};
        double[] want = {0.0, 9.5, 0.0, -0.0, -0.5, -0.0, 0.0, 0.0, -3.0, 2.0, 0.0, 0.0, 0.0};
        for (int n = 0; n < by.length; n++) {
            due.is("turn by " + by[n], x.turn(0, 0, d(by[n])), 1);
            turned(x, 0, 0, want[n]);
        }
    }

    @Says(promise = 16, text = "the ANGLE becomes what is left of ANGLE and x by TEETH")
    private static void turnOfAWheelByTheOutermostNumbers() {
        DialTrain x = oneWheel(WHEEL, 10);
        due.is("by the greatest", x.turn(0, 0, d(Double.MAX_VALUE)), 1);
        turned(x, 0, 0, 8.0);
        due.is("by the one furthest below", x.turn(0, 0, d(-Double.MAX_VALUE)), 1);
        turned(x, 0, 0, -8.0);
        due.is("back to 0.0", x.turn(0, 0, d(8.0)), 1);
        due.is("by the least", x.turn(0, 0, d(Double.MIN_VALUE)), 1);
        turned(x, 0, 0, Double.MIN_VALUE);
        due.is("by the least below", x.turn(0, 0, d(-Double.MIN_VALUE)), 1);
        turned(x, 0, 0, 0.0);
        due.is("by a little less than a round", x.turn(0, 0, d(Math.nextDown(10.0))), 1);
        turned(x, 0, 0, Math.nextDown(10.0));
    }

    @Says(promise = 16, text = "if x is below 0.0, it stays: 0")
    private static void turnOfARatchetBack() {
        DialTrain x = oneWheel(RATCHET, 10);
        due.is("turn by 25.0", x.turn(0, 0, d(25.0)), 1);
        for (double by : new double[] {-1.0, -5.0, -25.0, -Double.MIN_VALUE, -Double.MAX_VALUE}) {
            due.is("turn by " + by, x.turn(0, 0, d(by)), 0);
            turned(x, 0, 0, 5.0);
            clicked(x, 0, 0, 2);
        }
        refusals(x, 0, 0, 0, 0, 0);
    }

    @Says(promise = 16, text = "if x is below 0.0, it stays: 0")
    private static void turnOfARatchetByZeroIsNotBack() {
        DialTrain x = oneWheel(RATCHET, 10);
        due.is("turn by 0.0", x.turn(0, 0, d(0.0)), 1);
        due.is("turn by -0.0", x.turn(0, 0, d(-0.0)), 1);
        due.is("turn by the least", x.turn(0, 0, d(Double.MIN_VALUE)), 1);
        turned(x, 0, 0, Double.MIN_VALUE);
        clicked(x, 0, 0, 0);
    }

    @Says(promise = 16, text = "The answer is 1, but as told.")
    private static void turnOfAWheelBackIsOne() {
        DialTrain x = oneWheel(WHEEL, 10);
        due.is("turn by -1.0", x.turn(0, 0, d(-1.0)), 1);
        turned(x, 0, 0, -1.0);
        due.is("turn by -0.0", x.turn(0, 0, d(-0.0)), 1);
        turned(x, 0, 0, -1.0);
    }

    /** SLOT 0 a SPINDLE of 5: WHEEL 0, RATCHET 1, RATCHET 2, none, WHEEL 0; SLOT 1 DOUBLES of these numbers. */
    private static DialTrain train(double... by) {
        DialTrain x = readings(D, by);
        due.is("row(0, 2, 5)", x.row(0, SPINDLE, 5), 1);
        due.is("wheel(0, 0, 10)", x.wheel(0, WHEEL, 10), 1);
        due.is("wheel(1, 1, 10)", x.wheel(1, RATCHET, 10), 1);
        due.is("wheel(2, 1, 4)", x.wheel(2, RATCHET, 4), 1);
        int[] wheels = {0, 1, 2, -1, 0};
        for (int i = 0; i < 5; i++) {
            due.is("lay(0, i, ..)", x.lay(0, i, wheels[i]), 1);
        }
        return x;
    }

    private static void trained(DialTrain x, double first, double second, double third) {
        turned(x, 0, 0, first);
        turned(x, 0, 1, second);
        turned(x, 0, 2, third);
    }

    @Says(promise = 17, text = "up to the first place without one")
    private static void trainUpToAPlaceWithoutOne() {
        DialTrain x = train(13.0);
        due.is("from 0", x.train(0, 0, 1, 0), 3);
        trained(x, 3.0, 3.0, 1.0);
        due.is("from 2", x.train(0, 2, 1, 0), 1);
        trained(x, 3.0, 3.0, 2.0);
        due.is("from the place without one", x.train(0, 3, 1, 0), 0);
        trained(x, 3.0, 3.0, 2.0);
        refusals(x, 0, 0, 0, 0, 0);
    }

    @Says(promise = 17, text = "All WHEELS of a SPINDLE from place i on")
    private static void trainFromTheLastPlaceAndBehindIt() {
        DialTrain x = train(13.0);
        due.is("from the last", x.train(0, 4, 1, 0), 1);
        trained(x, 3.0, 0.0, 0.0);
        due.is("from behind the last", x.train(0, 5, 1, 0), 0);
        due.is("from far behind", x.train(0, MAX, 1, 0), 0);
        trained(x, 3.0, 0.0, 0.0);
        due.is("row(0, 2, 0)", x.row(0, SPINDLE, 0), 1);
        due.is("of no places", x.train(0, 0, 1, 0), 0);
        refusals(x, 0, 0, 0, 0, 0);
    }

    @Says(promise = 17, text = "All WHEELS of a SPINDLE from place i on")
    private static void trainOfAFullSpindle() {
        DialTrain x = train(7.0);
        for (int slot = 2; slot < 4; slot++) {
            due.is("row(.., .., 24)", x.row(slot, slot, 24), 1);
            for (int i = 0; i < 24; i++) {
                due.is("lay(.., " + i + ", 1)", x.lay(slot, i, 1), 1);
            }
        }
        due.is("of 24 places", x.train(2, 0, 1, 0), 24);
        clicked(x, 0, 1, 16);
        turned(x, 0, 1, 8.0);
        due.is("of 24 places of a FAST SPINDLE", x.train(3, 0, 1, 0), 24);
        clicked(x, 0, 1, 33);
        turned(x, 0, 1, 6.0);
    }

    @Says(promise = 17, text = "or a NONE")
    private static void trainByTheEndless() {
        for (double endless : new double[] {ENDLESS, -ENDLESS}) {
            DialTrain x = train(3.0, endless);
            due.is("by 3.0", x.train(0, 0, 1, 0), 3);
            due.is("by the endless", x.train(0, 0, 1, 1), 0);
            due.is("by the endless, from a RATCHET", x.train(0, 1, 1, 1), 0);
            trained(x, 3.0, 3.0, 3.0);
            refusals(x, 0, 0, 0, 0, 2);
            due.is("by the endless, from a place without one", x.train(0, 3, 1, 1), 0);
            due.is("by the endless, from behind the last", x.train(0, 5, 1, 1), 0);
            refusals(x, 0, 0, 0, 0, 2);
        }
    }

    @Says(promise = 17, text = "how many were (also those that stay)")
    private static void trainCountsThoseThatStay() {
        DialTrain x = train(-3.0, -Double.MIN_VALUE);
        due.is("back", x.train(0, 0, 1, 0), 3);
        trained(x, -3.0, 0.0, 0.0);
        due.is("back, RATCHETS alone", x.train(0, 1, 1, 0), 2);
        due.is("back a little", x.train(0, 1, 1, 1), 2);
        trained(x, -3.0, 0.0, 0.0);
        refusals(x, 0, 0, 0, 0, 0);
    }

    @Says(promise = 17, text = "one by one")
    private static void trainOfOneWheelInManyPlaces() {
        DialTrain x = train(7.0);
        for (int i = 0; i < 5; i++) {
            due.is("lay(0, i, 1)", x.lay(0, i, 1), 1);
        }
        due.is("train", x.train(0, 0, 1, 0), 5);
        turned(x, 0, 0, 5.0);
        clicked(x, 0, 0, 3);
    }

    @Says(promise = 17, text = "BAD -1 there is no such thing")
    private static void trainOfAndByNoSuchSlot() {
        DialTrain x = train(13.0);
        for (int no : NO_SLOTS) {
            due.is("train(" + no + ", 0, 1, 0)", x.train(no, 0, 1, 0), BAD);
            due.is("train(0, 0, " + no + ", 0)", x.train(0, 0, no, 0), BAD);
            due.is("train(" + no + ", -1, 7, 9)", x.train(no, -1, EMPTY, 9), BAD);
            due.is("train(7, -1, " + no + ", 9)", x.train(EMPTY, -1, no, 9), BAD);
        }
        trained(x, 0.0, 0.0, 0.0);
        refusals(x, 0, 0, 0, 0, 0);
    }

    @Says(promise = 17, text = "NULL, CAST, INDEX of the DOUBLES")
    private static void trainByNoSuchDoubles() {
        DialTrain x = train(13.0, 14.0);
        due.is("row(2, 0, 2)", x.row(2, F, 2), 1);
        due.is("row(3, 1, 0)", x.row(3, D, 0), 1);
        due.is("by nothing", x.train(0, 0, EMPTY, 0), NULL);
        due.is("by nothing, no such item", x.train(0, 0, EMPTY, 9), NULL);
        due.is("by FLOATS", x.train(0, 0, 2, 0), CAST);
        due.is("by FLOATS, no such item", x.train(0, 0, 2, 9), CAST);
        due.is("by a SPINDLE", x.train(0, 0, 0, 0), CAST);
        due.is("by the item behind the last", x.train(0, 0, 1, 2), INDEX);
        due.is("by the item below", x.train(0, 0, 1, -1), INDEX);
        due.is("by no items", x.train(0, 0, 3, 0), INDEX);
        trained(x, 0.0, 0.0, 0.0);
        refusals(x, 2, 3, 3, 0, 0);
        due.is("by the last item", x.train(0, 2, 1, 1), 1);
        trained(x, 0.0, 0.0, 2.0);
    }

    @Says(promise = 17, text = "then NULL, CAST of the SPINDLE")
    private static void trainOfNoSuchSpindle() {
        DialTrain x = train(13.0);
        due.is("row(2, 0, 2)", x.row(2, F, 2), 1);
        due.is("of nothing", x.train(EMPTY, 0, 1, 0), NULL);
        due.is("of nothing, from below", x.train(EMPTY, -1, 1, 0), NULL);
        due.is("of FLOATS", x.train(2, 0, 1, 0), CAST);
        due.is("of FLOATS, from below", x.train(2, -1, 1, 0), CAST);
        due.is("of the DOUBLES", x.train(1, 0, 1, 0), CAST);
        refusals(x, 2, 3, 0, 0, 0);
    }

    @Says(promise = 17, text = "NULL, CAST, INDEX of the DOUBLES, then NULL, CAST of the SPINDLE")
    private static void trainTakesTheDoublesFirst() {
        DialTrain x = train(13.0);
        due.is("by no such item, of nothing", x.train(EMPTY, 0, 1, 1), INDEX);
        due.is("by no such item, of DOUBLES", x.train(1, 0, 1, 1), INDEX);
        due.is("by a SPINDLE, of nothing", x.train(EMPTY, 0, 0, 0), CAST);
        due.is("by nothing, of DOUBLES", x.train(1, 0, EMPTY, 0), NULL);
        due.is("by nothing, from below", x.train(0, -1, EMPTY, 0), NULL);
        due.is("by a SPINDLE, from below", x.train(0, -1, 0, 0), CAST);
        refusals(x, 2, 2, 2, 0, 0);
    }

    @Says(promise = 17, text = "(i below 0: INDEX)")
    private static void trainFromBelow() {
        DialTrain x = train(13.0, ENDLESS);
        due.is("row(2, 3, 0)", x.row(2, FAST, 0), 1);
        due.is("from -1", x.train(0, -1, 1, 0), INDEX);
        due.is("from MIN", x.train(0, MIN, 1, 0), INDEX);
        due.is("from -1, by the endless", x.train(0, -1, 1, 1), INDEX);
        due.is("from -1, of no places", x.train(2, -1, 1, 0), INDEX);
        trained(x, 0.0, 0.0, 0.0);
        refusals(x, 0, 0, 4, 0, 0);
    }

    @Says(promise = 18, text = "BAD -1 there is no such thing")
    private static void angleInNoSuchSlot() {
        noSuchSlot(ANGLE);
    }

    @Says(promise = 18, text = "-11 NULL if it holds nothing")
    private static void angleInNothing() {
        nothingHeld(ANGLE);
    }

    @Says(promise = 18, text = "-12 CAST if that is no such ROW")
    private static void angleInNoSpindle() {
        noSuchRow(ANGLE);
    }

    @Says(promise = 18, text = "-13 INDEX if there is no such item")
    private static void angleInNoSuchPlace() {
        noSuchPlace(ANGLE);
    }

    @Says(promise = 18, text = "in this order")
    private static void angleRefusedInOrder() {
        inThisOrder(ANGLE);
    }

    @Says(promise = 18, text = "NULL (also where there is none)")
    private static void angleOfNone() {
        noneThere(ANGLE);
    }

    @Says(promise = 18, text = "a FAST SPINDLE is a SPINDLE, too")
    private static void angleOnAFastSpindle() {
        onTheFastSpindleToo(ANGLE);
    }

    @Says(promise = 18, text = "BITS of the ANGLE of the WHEEL")
    private static void angleIsToldByItsBits() {
        DialTrain x = oneWheel(WHEEL, 10);
        due.is("angle of a new one", x.angle(0, 0), 0);
        due.is("turn by -10.0", x.turn(0, 0, d(-10.0)), 1);
        due.is("angle of -0.0", x.angle(0, 0), Long.MIN_VALUE);
        due.is("failed()", x.failed(), 0);
        due.is("turn by 0.1", x.turn(0, 0, d(0.1)), 1);
        due.is("angle of 0.1", x.angle(0, 0), 0x3fb999999999999aL);
        due.is("turn by 0.2", x.turn(0, 0, d(0.2)), 1);
        due.is("angle of 0.1 + 0.2", x.angle(0, 0), 0x3fd3333333333334L);
    }

    @Says(promise = 18, text = "0: refused (as turn()); failed().")
    private static void angleRefusedIsZero() {
        DialTrain x = spindles();
        due.is("turn(2, 0, ..)", x.turn(2, 0, d(5.0)), 1);
        refusedAngle(x, 8, 0, BAD);
        refusedAngle(x, EMPTY, 0, NULL);
        refusedAngle(x, 2, 2, NULL);
        refusedAngle(x, 0, 0, CAST);
        refusedAngle(x, 2, 3, INDEX);
        turned(x, 2, 0, 5.0);
    }

    @Says(promise = 19, text = "BAD -1 there is no such thing")
    private static void clicksInNoSuchSlot() {
        noSuchSlot(CLICKS);
    }

    @Says(promise = 19, text = "-11 NULL if it holds nothing")
    private static void clicksInNothing() {
        nothingHeld(CLICKS);
    }

    @Says(promise = 19, text = "-12 CAST if that is no such ROW")
    private static void clicksInNoSpindle() {
        noSuchRow(CLICKS);
    }

    @Says(promise = 19, text = "-13 INDEX if there is no such item")
    private static void clicksInNoSuchPlace() {
        noSuchPlace(CLICKS);
    }

    @Says(promise = 19, text = "in this order")
    private static void clicksRefusedInOrder() {
        inThisOrder(CLICKS);
    }

    @Says(promise = 19, text = "NULL (also where there is none)")
    private static void clicksOfNone() {
        noneThere(CLICKS);
    }

    @Says(promise = 19, text = "a FAST SPINDLE is a SPINDLE, too")
    private static void clicksOnAFastSpindle() {
        onTheFastSpindleToo(CLICKS);
    }

    @Says(promise = 19, text = "(CAST: it is none)")
    private static void clicksOfNoRatchet() {
        DialTrain x = spindles();
        due.is("turn(2, 0, ..)", x.turn(2, 0, d(25.0)), 1);
        refusedClicks(x, 2, 0, CAST);
        clicked(x, 2, 1, 0);
        refusals(x, 0, 1, 0, 0, 0);
    }

    @Says(promise = 19, text = "0: refused; failed().")
    private static void clicksRefusedAreZero() {
        DialTrain x = spindles();
        due.is("turn(2, 1, ..)", x.turn(2, 1, d(25.0)), 1);
        refusedClicks(x, 8, 0, BAD);
        refusedClicks(x, EMPTY, 0, NULL);
        refusedClicks(x, 2, 2, NULL);
        refusedClicks(x, 0, 0, CAST);
        refusedClicks(x, 2, 0, CAST);
        refusedClicks(x, 2, 3, INDEX);
        clicked(x, 2, 1, 2);
    }

    private static void clicksBy(DialTrain x, double by, long want) {
        due.is("turn by " + by, x.turn(0, 0, d(by)), 1);
        clicked(x, 0, 0, want);
    }

    @Says(promise = 19, text = "s is ANGLE and x; CLICKS are s / TEETH more")
    private static void clicksGoOnWithTheAngle() {
        DialTrain x = oneWheel(RATCHET, 10);
        clicksBy(x, 7.0, 0);
        clicksBy(x, 7.0, 1);
        clicksBy(x, 6.0, 2);
        clicksBy(x, 0.0, 2);
        clicksBy(x, 10.0, 3);
        clicksBy(x, 35.0, 6);
        turned(x, 0, 0, 5.0);
    }

    @Says(promise = 19, text = "as a long (cut, the ends beyond; running over)")
    private static void clicksAreCut() {
        DialTrain x = oneWheel(RATCHET, 10);
        clicksBy(x, 9.75, 0);
        clicksBy(x, 10.0, 1);
        clicksBy(x, 0.125, 1);
        clicksBy(x, 0.125, 2);
        turned(x, 0, 0, 0.0);
        clicksBy(x, 19.999, 3);
    }

    @Says(promise = 19, text = "as a long (cut, the ends beyond; running over)")
    private static void clicksAtTheEndOfALong() {
        clicksBy(oneWheel(RATCHET, 1), 9223372036854774784.0, 9223372036854774784L);
        clicksBy(oneWheel(RATCHET, 1), 0x1.0p63, Long.MAX_VALUE);
        clicksBy(oneWheel(RATCHET, 2), 0x1.0p63, 0x4000000000000000L);
        clicksBy(oneWheel(RATCHET, 2), 0x1.0p64, Long.MAX_VALUE);
        clicksBy(oneWheel(RATCHET, 1000000), 1e30, Long.MAX_VALUE);
        clicksBy(oneWheel(RATCHET, 1), Double.MAX_VALUE, Long.MAX_VALUE);
        clicksBy(oneWheel(RATCHET, 1000000), 4294967296000000.0, 4294967296L);
    }

    @Says(promise = 19, text = "as a long (cut, the ends beyond; running over)")
    private static void clicksRunOver() {
        DialTrain x = oneWheel(RATCHET, 1);
        clicksBy(x, 1e300, Long.MAX_VALUE);
        clicksBy(x, 1.0, Long.MIN_VALUE);
        clicksBy(x, 1.0, Long.MIN_VALUE + 1);
        clicksBy(x, 1e300, 0);
        clicksBy(x, 1e300, Long.MAX_VALUE);
        clicksBy(x, 1e300, -2);
        clicksBy(x, 2.0, 0);
    }
}
