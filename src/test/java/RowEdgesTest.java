/** The edges of promises 1 to 5: objects, SLOTS and ROWS; a test for each sentence. */
public final class RowEdgesTest extends Bench {
    private static final int[] NO_KINDS = {-1, 4, MIN, MAX};

    public static void main(String[] args) {
        runAll(RowEdgesTest.class);
    }

    @Says(promise = 1, text = "Nothing in SLOTS")
    private static void newObjectHasNothingInSlots() {
        DialTrain x = new DialTrain();
        due.is("count(0)", x.count(0), 0);
        for (int slot = 0; slot < 8; slot++) {
            for (int lane = 0; lane < 4; lane++) {
                due.is("size(" + slot + ", " + lane + ")", x.size(slot, lane), NULL);
            }
            due.is("same(" + slot + ", 7)", x.same(slot, 7), 1);
        }
    }

    @Says(promise = 1, text = "no WHEELS")
    private static void newObjectHasNoWheels() {
        DialTrain x = new DialTrain();
        due.is("count(1)", x.count(1), 0);
        due.is("row(0, 2, 6)", x.row(0, SPINDLE, 6), 1);
        for (int k = 0; k < 6; k++) {
            due.is("lay(0, k, k)", x.lay(0, k, k), 1);
            due.is("turn(0, k, 0)", x.turn(0, k, 0), NULL);
        }
    }

    @Says(promise = 1, text = "Nothing in SLOTS, no WHEELS.")
    private static void newObjectHasNothingOfAnother() {
        DialTrain x = spindles();
        due.is("size(7, 0)", x.size(7, F), NULL);
        refusedGet(x, 0, D, 0, CAST);
        DialTrain y = new DialTrain();
        due.is("failed()", y.failed(), 0);
        for (int what = 0; what <= 6; what++) {
            due.is("count(" + what + ")", y.count(what), 0);
        }
        due.is("size(0, 0)", y.size(0, F), NULL);
        due.is("row(0, 2, 1)", y.row(0, SPINDLE, 1), 1);
        due.is("lay(0, 0, 0)", y.lay(0, 0, 0), 1);
        refusedAngle(y, 0, 0, NULL);
    }

    @Says(promise = 2, text = "of 0 .. 24 items")
    private static void rowOfNoItems() {
        DialTrain x = new DialTrain();
        for (int kind = 0; kind < 4; kind++) {
            due.is("row(" + kind + ", " + kind + ", 0)", x.row(kind, kind, 0), 1);
            due.is("size(" + kind + ", " + kind + ")", x.size(kind, kind), 0);
        }
        due.is("count(0)", x.count(0), 4);
        refusedGet(x, 0, F, 0, INDEX);
        refusedGet(x, 1, D, 0, INDEX);
        refusedAngle(x, 2, 0, INDEX);
        refusedAngle(x, 3, 0, INDEX);
    }

    @Says(promise = 2, text = "of 0 .. 24 items")
    private static void rowOfTheMostItems() {
        DialTrain x = new DialTrain();
        for (int kind = 0; kind < 4; kind++) {
            due.is("row(" + kind + ", " + kind + ", 24)", x.row(kind, kind, 24), 1);
            due.is("size(" + kind + ", " + kind + ")", x.size(kind, kind), 24);
        }
        due.is("wheel(5, 1, 3)", x.wheel(5, RATCHET, 3), 1);
        for (int lane = 0; lane < 2; lane++) {
            due.is("put(.., 23, ..)", x.put(lane, lane, 23, bits(lane, 1.5)), 1);
            item(x, lane, lane, 23, 1.5);
            refusedGet(x, lane, lane, 24, INDEX);
        }
        for (int slot = 2; slot < 4; slot++) {
            due.is("lay(" + slot + ", 23, 5)", x.lay(slot, 23, 5), 1);
            turned(x, slot, 23, 0.0);
            refusedAngle(x, slot, 24, INDEX);
        }
    }

    @Says(promise = 2, text = "(0.0; none)")
    private static void rowBeginsWithZerosAndNone() {
        DialTrain x = new DialTrain();
        for (int kind = 0; kind < 4; kind++) {
            due.is("row(" + kind + ", " + kind + ", 24)", x.row(kind, kind, 24), 1);
        }
        for (int i = 0; i < 24; i++) {
            item(x, 0, F, i, 0.0);
            item(x, 1, D, i, 0.0);
            refusedAngle(x, 2, i, NULL);
            refusedAngle(x, 3, i, NULL);
        }
    }

    @Says(promise = 2, text = "A SLOT holds a new ROW: 1.")
    private static void rowIsNewEvenIfTheSlotHeldOne() {
        DialTrain x = readings(D, 1.0, 2.0);
        due.is("hold(1, 5)", x.hold(1, 5), 1);
        due.is("row(1, 1, 2)", x.row(1, D, 2), 1);
        items(x, 1, D, 0.0, 0.0);
        items(x, 5, D, 1.0, 2.0);
        due.is("same(1, 5)", x.same(1, 5), 0);
        due.is("row(1, 0, 1)", x.row(1, F, 1), 1);
        due.is("size(1, 1)", x.size(1, D), CAST);
        items(x, 1, F, 0.0);
    }

    @Says(promise = 2, text = "SLOTS 0 ..")
    private static void rowInTheFirstAndTheLastSlot() {
        DialTrain x = new DialTrain();
        due.is("row(0, 0, 2)", x.row(0, F, 2), 1);
        due.is("row(7, 1, 3)", x.row(7, D, 3), 1);
        due.is("size(0, 0)", x.size(0, F), 2);
        due.is("size(7, 1)", x.size(7, D), 3);
        for (int no : NO_SLOTS) {
            due.is("row(" + no + ", 0, 1)", x.row(no, F, 1), BAD);
        }
        due.is("count(0)", x.count(0), 2);
    }

    @Says(promise = 2, text = "BAD: kind 0 .. 3")
    private static void rowOfNoKind() {
        DialTrain x = rows();
        for (int kind : NO_KINDS) {
            due.is("row(0, " + kind + ", 2)", x.row(0, kind, 2), BAD);
            due.is("row(6, " + kind + ", 2)", x.row(6, kind, 2), BAD);
        }
        due.is("size(0, 0)", x.size(0, F), 3);
        due.is("size(6, 0)", x.size(6, F), NULL);
    }

    @Says(promise = 2, text = "n above 24")
    private static void rowOfTooManyItems() {
        DialTrain x = rows();
        for (int kind = 0; kind < 4; kind++) {
            due.is("row(" + kind + ", .., 25)", x.row(kind, kind, 25), BAD);
            due.is("row(" + kind + ", .., MAX)", x.row(kind, kind, MAX), BAD);
            due.is("size(" + kind + ", " + kind + ")", x.size(kind, kind), 3);
            due.is("row(6, .., 25)", x.row(6, kind, 25), BAD);
        }
        due.is("count(0)", x.count(0), 4);
    }

    @Says(promise = 2, text = "SIZE: n below 0")
    private static void rowOfFewerThanNoItems() {
        DialTrain x = rows();
        for (int kind = 0; kind < 4; kind++) {
            due.is("row(" + kind + ", .., -1)", x.row(kind, kind, -1), SIZE);
            due.is("row(" + kind + ", .., MIN)", x.row(kind, kind, MIN), SIZE);
            due.is("size(" + kind + ", " + kind + ")", x.size(kind, kind), 3);
            due.is("row(6, .., -1)", x.row(6, kind, -1), SIZE);
        }
        due.is("count(0)", x.count(0), 4);
        refusals(x, 0, 0, 0, 0, 0);
    }

    @Says(promise = 3, text = "from -1: nothing")
    private static void holdOfNothing() {
        DialTrain x = rows();
        for (int to = 0; to < 8; to++) {
            due.is("hold(-1, " + to + ")", x.hold(-1, to), 1);
            due.is("size(" + to + ", 0)", x.size(to, F), NULL);
            due.is("count(0)", x.count(0), to < 3 ? 3 - to : 0);
        }
    }

    @Says(promise = 3, text = "from -1: nothing")
    private static void holdOfNothingLeavesTheRowElsewhere() {
        DialTrain x = readings(D, 1.0, 2.0);
        due.is("hold(1, 6)", x.hold(1, 6), 1);
        due.is("hold(-1, 1)", x.hold(-1, 1), 1);
        due.is("size(1, 1)", x.size(1, D), NULL);
        items(x, 6, D, 1.0, 2.0);
    }

    @Says(promise = 3, text = "SLOT to holds what SLOT from holds")
    private static void holdOfASlotThatHoldsNothing() {
        DialTrain x = rows();
        due.is("hold(7, 2)", x.hold(EMPTY, 2), 1);
        due.is("size(2, 2)", x.size(2, SPINDLE), NULL);
        due.is("hold(7, 6)", x.hold(EMPTY, 6), 1);
        due.is("count(0)", x.count(0), 3);
        due.is("hold(0, 0)", x.hold(0, 0), 1);
        due.is("size(0, 0)", x.size(0, F), 3);
    }

    @Says(promise = 3, text = "Two SLOTS may hold the very same ROW.")
    private static void holdSharesTheRow() {
        DialTrain x = spindles();
        for (int slot = 0; slot < 4; slot++) {
            due.is("hold(" + slot + ", " + (slot + 4) + ")", x.hold(slot, slot + 4), 1);
        }
        due.is("put(4, 0, 2, ..)", x.put(4, F, 2, f(0.5)), 1);
        item(x, 0, F, 2, 0.5);
        due.is("put(1, 1, 0, ..)", x.put(1, D, 0, d(0.25)), 1);
        item(x, 5, D, 0, 0.25);
        due.is("lay(6, 2, 0)", x.lay(6, 2, 0), 1);
        turned(x, 2, 2, 0.0);
        due.is("lay(3, 0, -1)", x.lay(3, 0, -1), 1);
        refusedAngle(x, 7, 0, NULL);
    }

    @Says(promise = 3, text = "BAD.")
    private static void holdOfNoSlot() {
        DialTrain x = rows();
        for (int no : new int[] {-2, 8, MIN, MAX}) {
            due.is("hold(" + no + ", 0)", x.hold(no, 0), BAD);
            due.is("hold(" + no + ", 7)", x.hold(no, EMPTY), BAD);
        }
        for (int no : NO_SLOTS) {
            due.is("hold(0, " + no + ")", x.hold(0, no), BAD);
            due.is("hold(-1, " + no + ")", x.hold(-1, no), BAD);
        }
        due.is("size(0, 0)", x.size(0, F), 3);
        due.is("count(0)", x.count(0), 4);
        due.is("hold(0, 7)", x.hold(0, 7), 1);
        due.is("hold(7, 6)", x.hold(7, 6), 1);
        due.is("size(6, 0)", x.size(6, F), 3);
    }

    @Says(promise = 4, text = "Whether two SLOTS hold the very same")
    private static void sameIsNotMerelyAlike() {
        DialTrain x = rows();
        due.is("row(4, 0, 3)", x.row(4, F, 3), 1);
        due.is("hold(0, 5)", x.hold(0, 5), 1);
        due.is("same(0, 4)", x.same(0, 4), 0);
        due.is("same(4, 5)", x.same(4, 5), 0);
        due.is("same(0, 5)", x.same(0, 5), 1);
        due.is("same(5, 0)", x.same(5, 0), 1);
        due.is("same(0, 0)", x.same(0, 0), 1);
        due.is("row(0, 0, 3)", x.row(0, F, 3), 1);
        due.is("same(0, 5)", x.same(0, 5), 0);
    }

    @Says(promise = 4, text = "or nothing both")
    private static void sameOfNothing() {
        DialTrain x = new DialTrain();
        due.is("same(6, 7)", x.same(6, 7), 1);
        due.is("same(7, 7)", x.same(7, 7), 1);
        due.is("row(6, 0, 0)", x.row(6, F, 0), 1);
        due.is("same(6, 7)", x.same(6, 7), 0);
        due.is("same(7, 6)", x.same(7, 6), 0);
        due.is("hold(-1, 6)", x.hold(-1, 6), 1);
        due.is("same(6, 7)", x.same(6, 7), 1);
    }

    @Says(promise = 4, text = "BAD.")
    private static void sameOfNoSlot() {
        DialTrain x = rows();
        for (int no : NO_SLOTS) {
            due.is("same(" + no + ", 0)", x.same(no, 0), BAD);
            due.is("same(0, " + no + ")", x.same(0, no), BAD);
            due.is("same(" + no + ", " + no + ")", x.same(no, no), BAD);
            due.is("same(7, " + no + ")", x.same(EMPTY, no), BAD);
        }
    }

    @Says(promise = 5, text = "TAKEN with a LANE 0 .. 3")
    private static void sizeWithEachLane() {
        DialTrain x = new DialTrain();
        for (int kind = 0; kind < 4; kind++) {
            due.is("row", x.row(kind, kind, 5 + kind), 1);
            due.is("size(" + kind + ", " + kind + ")", x.size(kind, kind), 5 + kind);
        }
        for (int no : NO_KINDS) {
            for (int slot = 0; slot < 8; slot++) {
                due.is("size(" + slot + ", " + no + ")", x.size(slot, no), BAD);
            }
        }
    }

    @Says(promise = 5, text = "(2: any SPINDLE)")
    private static void sizeOfAnySpindle() {
        DialTrain x = rows();
        due.is("size(2, 2)", x.size(2, SPINDLE), 3);
        due.is("size(3, 2)", x.size(3, SPINDLE), 3);
        due.is("size(3, 3)", x.size(3, FAST), 3);
        due.is("size(2, 3)", x.size(2, FAST), CAST);
    }

    @Says(promise = 5, text = "BAD; NULL; CAST.")
    private static void sizeOfNoSlot() {
        DialTrain x = rows();
        for (int no : NO_SLOTS) {
            for (int lane = 0; lane < 4; lane++) {
                due.is("size(" + no + ", " + lane + ")", x.size(no, lane), BAD);
            }
        }
    }

    @Says(promise = 5, text = "-11 NULL if it holds nothing; -12 CAST if that is no such ROW")
    private static void sizeOfNothingAndOfNoSuchRow() {
        DialTrain x = rows();
        for (int lane = 0; lane < 4; lane++) {
            due.is("size(7, " + lane + ")", x.size(EMPTY, lane), NULL);
            for (int kind = 0; kind < 4; kind++) {
                boolean fits = kind == lane || kind == FAST && lane == SPINDLE;
                due.is("size(" + kind + ", " + lane + ")", x.size(kind, lane), fits ? 3 : CAST);
            }
        }
        refusals(x, 4, 11, 0, 0, 0);
    }

    @Says(promise = 5, text = "How many items the ROW of a SLOT has")
    private static void sizeOfEachLength() {
        DialTrain x = new DialTrain();
        for (int kind = 0; kind < 4; kind++) {
            for (int n = 0; n <= 24; n++) {
                due.is("row(7, " + kind + ", " + n + ")", x.row(7, kind, n), 1);
                due.is("size(7, " + kind + ")", x.size(7, kind), n);
            }
        }
    }
}
