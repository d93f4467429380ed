import java.util.ArrayList;
import java.util.List;

/** The edges of promises 13 and 20, and of every refused call: what is told, and that nothing else changes. */
public final class TellingEdgesTest extends Bench {
    private static final long ENDLESS_BITS = d(ENDLESS);
    private static final long NO_DOUBLE = NO_DOUBLES[0];
    private static final long NO_FLOAT = NO_FLOATS[0];

    private interface Call {
        long on(DialTrain x);
    }

    /** A call on full() that is refused; calls of these four promises tell 0, and failed() tells why. */
    private record Refused(int promise, String name, int why, Call call) {
        boolean tellsZero() {
            return promise == 7 || promise == 10 || promise == 18 || promise == 19;
        }

        long answer() {
            return tellsZero() ? 0 : why;
        }
    }

    private static final List<Refused> REFUSED = new ArrayList<>();

    public static void main(String[] args) {
        refusedRows();
        refusedReadings();
        refusedCasts();
        refusedWheels();
        runAll(TellingEdgesTest.class);
    }

    private static void add(int promise, String name, int why, Call call) {
        REFUSED.add(new Refused(promise, name, why, call));
    }

    private static void refusedRows() {
        add(2, "row(8, 0, 1)", BAD, x -> x.row(8, F, 1));
        add(2, "row(0, 4, 1)", BAD, x -> x.row(0, 4, 1));
        add(2, "row(0, 0, 25)", BAD, x -> x.row(0, F, 25));
        add(2, "row(1, 1, -1)", SIZE, x -> x.row(1, D, -1));
        add(2, "row(2, 2, -1)", SIZE, x -> x.row(2, SPINDLE, -1));
        add(2, "row(3, 3, MIN)", SIZE, x -> x.row(3, FAST, MIN));
        add(3, "hold(-2, 0)", BAD, x -> x.hold(-2, 0));
        add(3, "hold(8, 0)", BAD, x -> x.hold(8, 0));
        add(3, "hold(0, 8)", BAD, x -> x.hold(0, 8));
        add(3, "hold(-1, -1)", BAD, x -> x.hold(-1, -1));
        add(4, "same(8, 0)", BAD, x -> x.same(8, 0));
        add(4, "same(0, -1)", BAD, x -> x.same(0, -1));
        add(5, "size(8, 0)", BAD, x -> x.size(8, F));
        add(5, "size(0, 4)", BAD, x -> x.size(0, 4));
        add(5, "size(7, 0)", NULL, x -> x.size(EMPTY, F));
        add(5, "size(2, 3)", CAST, x -> x.size(2, FAST));
    }

    private static void refusedReadings() {
        add(6, "put to no such SLOT", BAD, x -> x.put(-1, F, 0, 0));
        add(6, "put with no such LANE", BAD, x -> x.put(2, SPINDLE, 0, 0));
        add(6, "put of no float", BAD, x -> x.put(0, F, 0, NO_FLOAT));
        add(6, "put of no double", BAD, x -> x.put(1, D, 0, NO_DOUBLE));
        add(6, "put to nothing", NULL, x -> x.put(EMPTY, F, 0, 0));
        add(6, "put to no such ROW", CAST, x -> x.put(0, D, 0, 0));
        add(6, "put behind the last", INDEX, x -> x.put(0, F, 3, 0));
        add(6, "put below the first", INDEX, x -> x.put(1, D, -1, 0));
        add(7, "get of no such SLOT", BAD, x -> x.get(8, F, 0));
        add(7, "get with no such LANE", BAD, x -> x.get(0, 2, 0));
        add(7, "get of nothing", NULL, x -> x.get(EMPTY, D, 0));
        add(7, "get of no such ROW", CAST, x -> x.get(1, F, 0));
        add(7, "get behind the last", INDEX, x -> x.get(1, D, 3));
        add(8, "rest in no such SLOT", BAD, x -> x.rest(8, F, 0, f(2.0)));
        add(8, "rest with no such LANE", BAD, x -> x.rest(0, -1, 0, f(2.0)));
        add(8, "rest by no double", BAD, x -> x.rest(1, D, 0, NO_DOUBLE));
        add(8, "rest of nothing", NULL, x -> x.rest(EMPTY, D, 0, d(2.0)));
        add(8, "rest of no such ROW", CAST, x -> x.rest(1, F, 0, f(2.0)));
        add(8, "rest behind the last", INDEX, x -> x.rest(1, D, 3, d(2.0)));
        add(8, "rest of an endless float", NONE, x -> x.rest(0, F, 1, f(2.0)));
        add(8, "rest of an endless double", NONE, x -> x.rest(1, D, 1, d(2.0)));
        add(8, "rest by 0.0", NONE, x -> x.rest(1, D, 0, 0));
        add(8, "rest by -0.0", NONE, x -> x.rest(0, F, 0, f(-0.0)));
        add(9, "wind in no such SLOT", BAD, x -> x.wind(-1, F, 0, f(2.0)));
        add(9, "wind with no such LANE", BAD, x -> x.wind(0, 2, 0, f(2.0)));
        add(9, "wind by no float", BAD, x -> x.wind(0, F, 0, NO_FLOAT));
        add(9, "wind of nothing", NULL, x -> x.wind(EMPTY, F, 0, f(2.0)));
        add(9, "wind of no such ROW", CAST, x -> x.wind(0, D, 0, d(2.0)));
        add(9, "wind from beyond", INDEX, x -> x.wind(0, F, 4, f(2.0)));
        add(9, "wind from below", INDEX, x -> x.wind(1, D, -1, d(2.0)));
    }

    private static void refusedCasts() {
        add(10, "as in no such SLOT", BAD, x -> x.as(8, F, 0, 0));
        add(10, "as with no such LANE", BAD, x -> x.as(0, 2, 0, 0));
        add(10, "as of no such how", BAD, x -> x.as(0, F, 0, 7));
        add(10, "as of nothing", NULL, x -> x.as(EMPTY, F, 0, 0));
        add(10, "as of no such ROW", CAST, x -> x.as(3, F, 0, 0));
        add(10, "as behind the last", INDEX, x -> x.as(0, F, 3, 0));
        add(11, "whole in no such SLOT", BAD, x -> x.whole(8, F, 0, 1, 0));
        add(11, "whole with no such LANE", BAD, x -> x.whole(0, 2, 0, 1, 0));
        add(11, "whole of no such how", BAD, x -> x.whole(0, F, 0, 1, 4));
        add(11, "whole in nothing", NULL, x -> x.whole(EMPTY, F, 0, 1, 0));
        add(11, "whole in no such ROW", CAST, x -> x.whole(1, F, 0, 1, 0));
        add(11, "whole behind the last", INDEX, x -> x.whole(1, D, 3, 1, 0));
        add(12, "move from no such SLOT", BAD, x -> x.move(8, F, 0, 1, D, 0));
        add(12, "move to no such SLOT", BAD, x -> x.move(0, F, 0, -1, D, 0));
        add(12, "move from no such LANE", BAD, x -> x.move(0, 2, 0, 1, D, 0));
        add(12, "move to no such LANE", BAD, x -> x.move(0, F, 0, 1, 2, 0));
        add(12, "move from nothing", NULL, x -> x.move(EMPTY, F, 0, 1, D, 0));
        add(12, "move to nothing", NULL, x -> x.move(0, F, 0, EMPTY, D, 0));
        add(12, "move from no such ROW", CAST, x -> x.move(1, F, 0, 1, D, 0));
        add(12, "move to no such ROW", CAST, x -> x.move(0, F, 0, 0, D, 0));
        add(12, "move from behind the last", INDEX, x -> x.move(0, F, 3, 1, D, 0));
        add(12, "move to behind the last", INDEX, x -> x.move(0, F, 0, 1, D, 3));
    }

    private static void refusedWheels() {
        add(14, "wheel(6, 0, 5)", BAD, x -> x.wheel(6, WHEEL, 5));
        add(14, "wheel(-1, 0, 5)", BAD, x -> x.wheel(-1, WHEEL, 5));
        add(14, "wheel(0, 2, 5)", BAD, x -> x.wheel(0, 2, 5));
        add(14, "wheel(4, -1, 5)", BAD, x -> x.wheel(4, -1, 5));
        add(14, "wheel(1, 1, 0)", BAD, x -> x.wheel(1, RATCHET, 0));
        add(14, "wheel(4, 0, 1000001)", BAD, x -> x.wheel(4, WHEEL, 1000001));
        add(15, "lay in no such SLOT", BAD, x -> x.lay(8, 0, 1));
        add(15, "lay of no such WHEEL", BAD, x -> x.lay(2, 0, 6));
        add(15, "lay of no such WHEEL below", BAD, x -> x.lay(2, 0, -2));
        add(15, "lay in nothing", NULL, x -> x.lay(EMPTY, 0, 1));
        add(15, "lay in DOUBLES", CAST, x -> x.lay(1, 0, 1));
        add(15, "lay behind the last", INDEX, x -> x.lay(2, 3, 1));
        add(15, "lay of a WHEEL where a RATCHET lies", STORE, x -> x.lay(3, 0, 0));
        add(15, "lay of a WHEEL where none lies", STORE, x -> x.lay(3, 1, 3));
        add(16, "turn in no such SLOT", BAD, x -> x.turn(8, 0, d(1.0)));
        add(16, "turn by no number", BAD, x -> x.turn(2, 0, NO_DOUBLE));
        add(16, "turn in nothing", NULL, x -> x.turn(EMPTY, 0, d(1.0)));
        add(16, "turn of none", NULL, x -> x.turn(2, 2, d(1.0)));
        add(16, "turn in FLOATS", CAST, x -> x.turn(0, 0, d(1.0)));
        add(16, "turn behind the last", INDEX, x -> x.turn(2, 3, d(1.0)));
        add(16, "turn of a WHEEL by the endless", NONE, x -> x.turn(2, 0, ENDLESS_BITS));
        add(16, "turn of a RATCHET by the endless", NONE, x -> x.turn(2, 1, ENDLESS_BITS));
        add(17, "train of no such SLOT", BAD, x -> x.train(8, 0, 1, 0));
        add(17, "train by no such SLOT", BAD, x -> x.train(2, 0, -1, 0));
        add(17, "train by nothing", NULL, x -> x.train(2, 0, EMPTY, 0));
        add(17, "train by FLOATS", CAST, x -> x.train(2, 0, 0, 0));
        add(17, "train by no such item", INDEX, x -> x.train(2, 0, 1, 3));
        add(17, "train of nothing", NULL, x -> x.train(EMPTY, 0, 1, 0));
        add(17, "train of DOUBLES", CAST, x -> x.train(4, 0, 1, 0));
        add(17, "train from below", INDEX, x -> x.train(2, -1, 1, 0));
        add(18, "angle in no such SLOT", BAD, x -> x.angle(8, 0));
        add(18, "angle in nothing", NULL, x -> x.angle(EMPTY, 0));
        add(18, "angle of none", NULL, x -> x.angle(3, 1));
        add(18, "angle in DOUBLES", CAST, x -> x.angle(1, 0));
        add(18, "angle behind the last", INDEX, x -> x.angle(3, 3));
        add(19, "clicks in no such SLOT", BAD, x -> x.clicks(-1, 0));
        add(19, "clicks in nothing", NULL, x -> x.clicks(EMPTY, 0));
        add(19, "clicks of none", NULL, x -> x.clicks(2, 2));
        add(19, "clicks in DOUBLES", CAST, x -> x.clicks(1, 0));
        add(19, "clicks of no RATCHET", CAST, x -> x.clicks(2, 0));
        add(19, "clicks behind the last", INDEX, x -> x.clicks(2, 3));
        add(20, "count(-1)", BAD, x -> x.count(-1));
        add(20, "count(7)", BAD, x -> x.count(7));
    }

    /**
     * SLOT 0 FLOATS and 1 DOUBLES of 7.5, an endless one, -0.0; 2 a SPINDLE of WHEEL 0, RATCHET 1, none; 3 a FAST SPINDLE of
     * RATCHET 1, none, RATCHET 2; 4 the same as 1; the others nothing. WHEEL 3 lies nowhere, 4 and 5 are not there. 0 and 1
     * are turned, each counter of refusals tells another number, and failed() tells 0.
     */
    private static DialTrain full() {
        DialTrain x = rows();
        for (int lane = 0; lane < 2; lane++) {
            x.put(lane, lane, 0, bits(lane, 7.5));
            x.put(lane, lane, 1, bits(lane, ENDLESS));
            x.put(lane, lane, 2, bits(lane, -0.0));
        }
        x.hold(1, 4);
        x.wheel(0, WHEEL, 10);
        x.wheel(1, RATCHET, 10);
        x.wheel(2, RATCHET, 7);
        x.wheel(3, WHEEL, 5);
        x.lay(2, 0, 0);
        x.lay(2, 1, 1);
        x.lay(3, 0, 1);
        x.lay(3, 2, 2);
        x.turn(2, 0, d(13.5));
        x.turn(2, 1, d(27.0));
        int[] refusals = {0, 1, 2, 3, 4};
        for (int n = 0; n < 5; n++) {
            refuse(x, n, refusals[n]);
        }
        refusals(x, refusals);
        due.is("failed()", x.failed(), 0);
        return x;
    }

    /** The n-th refusal of NULL, CAST, INDEX, STORE, NONE, so many times. */
    private static void refuse(DialTrain x, int n, int times) {
        for (int time = 0; time < times; time++) {
            switch (n) {
                case 0: x.size(EMPTY, F); break;
                case 1: x.size(0, D); break;
                case 2: x.put(0, F, 3, 0); break;
                case 3: x.lay(3, 1, 0); break;
                default: x.rest(0, F, 1, f(1.0));
            }
        }
    }

    /** All that an object can be asked: first failed() and the counters, as asking for the rest changes them. */
    private static List<Long> look(DialTrain x) {
        List<Long> all = new ArrayList<>();
        all.add((long) x.failed());
        for (int what = 0; what <= 6; what++) {
            all.add((long) x.count(what));
        }
        for (int slot = 0; slot < 8; slot++) {
            for (int lane = 0; lane < 4; lane++) {
                all.add((long) x.size(slot, lane));
            }
            for (int other = 0; other < slot; other++) {
                all.add((long) x.same(slot, other));
            }
            for (int i = 0; i < 3; i++) {
                all.add(x.get(slot, F, i));
                all.add(x.get(slot, D, i));
                all.add(x.clicks(slot, i));
                all.add(x.angle(slot, i));
                all.add((long) x.failed());
            }
        }
        lookAtWheels(x, all);
        return all;
    }

    /** Lays each WHEEL where it can be seen, and turns it, so that its TEETH and the places where it lies tell on it. */
    private static void lookAtWheels(DialTrain x, List<Long> all) {
        x.row(EMPTY, SPINDLE, 6);
        for (int k = 0; k < 6; k++) {
            all.add((long) x.lay(EMPTY, k, k));
            all.add(x.clicks(EMPTY, k));
            all.add(x.angle(EMPTY, k));
            all.add((long) x.turn(EMPTY, k, d(1234567.25)));
            all.add(x.clicks(EMPTY, k));
            all.add((long) x.failed());
        }
        for (int i = 0; i < 3; i++) {
            all.add(x.angle(2, i));
            all.add(x.angle(3, i));
        }
    }

    /** Two objects, alike but for one call that one of them has had: they differ in what is told of it alone. */
    private static void changesNothing(Refused refused, boolean failedBefore) {
        DialTrain x = full();
        DialTrain y = full();
        if (failedBefore) {
            x.get(0, F, 24);
            y.get(0, F, 24);
        }
        due.is(refused.name, refused.call.on(x), refused.answer());
        List<Long> want = look(y);
        if (refused.tellsZero()) {
            want.set(0, (long) refused.why);
        }
        if (refused.why <= NULL && refused.why >= NONE) {
            int counter = 3 + NULL - refused.why;
            want.set(counter, want.get(counter) + 1);
        }
        List<Long> got = look(x);
        for (int n = 0; n < want.size(); n++) {
            due.is("after " + refused.name + ", answer " + n, got.get(n), want.get(n));
        }
    }

    private static void changesNothing(int promise) {
        for (Refused refused : REFUSED) {
            if (refused.promise == promise) {
                changesNothing(refused, false);
                changesNothing(refused, true);
            }
        }
    }

    @Says(promise = 2, text = "what is refused changes nothing, but where it is told")
    private static void refusedRowChangesNothing() {
        changesNothing(2);
    }

    @Says(promise = 3, text = "what is refused changes nothing, but where it is told")
    private static void refusedHoldChangesNothing() {
        changesNothing(3);
    }

    @Says(promise = 4, text = "what is refused changes nothing, but where it is told")
    private static void refusedSameChangesNothing() {
        changesNothing(4);
    }

    @Says(promise = 5, text = "what is refused changes nothing, but where it is told")
    private static void refusedSizeChangesNothing() {
        changesNothing(5);
    }

    @Says(promise = 6, text = "what is refused changes nothing, but where it is told")
    private static void refusedPutChangesNothing() {
        changesNothing(6);
    }

    @Says(promise = 7, text = "what is refused changes nothing, but where it is told")
    private static void refusedGetChangesNothing() {
        changesNothing(7);
    }

    @Says(promise = 8, text = "what is refused changes nothing, but where it is told")
    private static void refusedRestChangesNothing() {
        changesNothing(8);
    }

    @Says(promise = 9, text = "what is refused changes nothing, but where it is told")
    private static void refusedWindChangesNothing() {
        changesNothing(9);
    }

    @Says(promise = 10, text = "what is refused changes nothing, but where it is told")
    private static void refusedAsChangesNothing() {
        changesNothing(10);
    }

    @Says(promise = 11, text = "what is refused changes nothing, but where it is told")
    private static void refusedWholeChangesNothing() {
        changesNothing(11);
    }

    @Says(promise = 12, text = "what is refused changes nothing, but where it is told")
    private static void refusedMoveChangesNothing() {
        changesNothing(12);
    }

    @Says(promise = 14, text = "what is refused changes nothing, but where it is told")
    private static void refusedWheelChangesNothing() {
        changesNothing(14);
    }

    @Says(promise = 15, text = "what is refused changes nothing, but where it is told")
    private static void refusedLayChangesNothing() {
        changesNothing(15);
    }

    @Says(promise = 16, text = "what is refused changes nothing, but where it is told")
    private static void refusedTurnChangesNothing() {
        changesNothing(16);
    }

    @Says(promise = 17, text = "what is refused changes nothing, but where it is told")
    private static void refusedTrainChangesNothing() {
        changesNothing(17);
    }

    @Says(promise = 18, text = "what is refused changes nothing, but where it is told")
    private static void refusedAngleChangesNothing() {
        changesNothing(18);
    }

    @Says(promise = 19, text = "what is refused changes nothing, but where it is told")
    private static void refusedClicksChangeNothing() {
        changesNothing(19);
    }

    @Says(promise = 20, text = "what is refused changes nothing, but where it is told")
    private static void refusedCountChangesNothing() {
        changesNothing(20);
    }

    @Says(promise = 9, text = "what is refused changes nothing, but where it is told")
    private static void windThatEndsByNoneKeepsWhatItDid() {
        DialTrain x = full();
        DialTrain y = full();
        due.is("wind up to the endless one", x.wind(1, D, 0, d(2.0)), 1);
        due.is("rest of the one before it", y.rest(1, D, 0, d(2.0)), 1);
        List<Long> want = look(y);
        want.set(7, want.get(7) + 1);
        due.is("all that can be asked afterwards", look(x).equals(want) ? 1 : 0, 1);
    }

    @Says(promise = 17, text = "what is refused changes nothing, but where it is told")
    private static void trainThatEndsByNoneTurnsNothing() {
        DialTrain x = full();
        due.is("train by the endless", x.train(2, 0, 1, 1), 0);
        List<Long> want = look(full());
        want.set(7, want.get(7) + 1);
        due.is("all that can be asked afterwards", look(x).equals(want) ? 1 : 0, 1);
    }

    @Says(promise = 17, text = "of train() NULL by a place is none")
    private static void trainFromAPlaceWithoutOneTellsNothing() {
        DialTrain x = full();
        due.is("train from a place without one", x.train(2, 2, 1, 0), 0);
        due.is("all that can be asked afterwards", look(x).equals(look(full())) ? 1 : 0, 1);
    }

    @Says(promise = 13, text = "or there was none")
    private static void failedBeforeAny() {
        DialTrain x = new DialTrain();
        due.is("failed()", x.failed(), 0);
        due.is("put to nothing", x.put(0, F, 0, 0), NULL);
        due.is("count(7)", x.count(7), BAD);
        due.is("failed()", x.failed(), 0);
    }

    @Says(promise = 13, text = "Why the latest get(), as(), angle(), clicks() told 0: a refusal")
    private static void failedTellsEachRefusal() {
        for (Refused refused : REFUSED) {
            if (refused.tellsZero()) {
                DialTrain x = full();
                due.is(refused.name, refused.call.on(x), 0);
                due.is("failed() after " + refused.name, x.failed(), refused.why);
                due.is("failed() again", x.failed(), refused.why);
            }
        }
    }

    @Says(promise = 13, text = "Why the latest get(), as(), angle(), clicks() told 0: a refusal")
    private static void failedTellsOfTheLatest() {
        DialTrain x = full();
        refusedGet(x, EMPTY, F, 0, NULL);
        refusedAs(x, 0, D, 0, 0, CAST);
        refusedAngle(x, 2, 3, INDEX);
        refusedClicks(x, 8, 0, BAD);
        refusedAngle(x, 2, 2, NULL);
        refusedAs(x, 0, F, 3, 0, INDEX);
        refusedClicks(x, 2, 0, CAST);
        refusedGet(x, 0, 2, 0, BAD);
    }

    @Says(promise = 13, text = "0: it did not go wrong")
    private static void failedIsZeroAfterEachThatWentWell() {
        Call[] well = {x -> x.get(0, F, 0), x -> x.as(1, D, 0, 1), x -> x.angle(2, 0), x -> x.clicks(3, 0)};
        long[] want = {f(7.5), 7, d(3.5), 2};
        DialTrain x = full();
        for (int n = 0; n < well.length; n++) {
            refusedGet(x, EMPTY, F, 0, NULL);
            due.is("one that goes well", well[n].on(x), want[n]);
            due.is("failed()", x.failed(), 0);
        }
    }

    @Says(promise = 13, text = "0: it did not go wrong")
    private static void failedIsZeroAfterAnAnswerThatIsZero() {
        DialTrain x = new DialTrain();
        x.row(0, F, 1);
        x.row(1, D, 1);
        x.row(2, FAST, 1);
        x.wheel(0, RATCHET, 3);
        x.lay(2, 0, 0);
        Call[] well = {y -> y.get(0, F, 0), y -> y.get(1, D, 0), y -> y.as(0, F, 0, 5), y -> y.as(1, D, 0, 0),
            y -> y.angle(2, 0), y -> y.clicks(2, 0)};
        for (Call call : well) {
            refusedAs(x, 0, F, 1, 0, INDEX);
            due.is("an answer that is 0", call.on(x), 0);
            due.is("failed()", x.failed(), 0);
        }
    }

    @Says(promise = 13, text = "Why the latest get(), as(), angle(), clicks() told 0")
    private static void failedStaysWhenOthersAreRefused() {
        for (Refused refused : REFUSED) {
            if (!refused.tellsZero()) {
                DialTrain x = full();
                due.is(refused.name, refused.call.on(x), refused.why);
                due.is("failed() after " + refused.name, x.failed(), 0);
                refusedAngle(x, 2, 2, NULL);
                due.is(refused.name, refused.call.on(x), refused.why);
                due.is("failed() after " + refused.name, x.failed(), NULL);
            }
        }
    }

    @Says(promise = 13, text = "Why the latest get(), as(), angle(), clicks() told 0")
    private static void failedStaysWhenOthersGoWell() {
        DialTrain x = full();
        refusedGet(x, 0, D, 0, CAST);
        Call[] well = {y -> y.row(5, F, 1), y -> y.hold(5, 6), y -> y.same(5, 6), y -> y.size(5, F), y -> y.put(5, F, 0, f(1.0)),
            y -> y.rest(5, F, 0, f(1.0)), y -> y.wind(5, F, 0, f(1.0)), y -> y.whole(5, F, 0, 1, 0), y -> y.move(5, F, 0, 1, D, 0),
            y -> y.wheel(5, RATCHET, 1), y -> y.lay(3, 1, 5), y -> y.turn(3, 1, d(1.0)), y -> y.train(3, 2, 1, 0) };
        for (Call call : well) {
            due.is("one that goes well", call.on(x), 1);
            due.is("failed()", x.failed(), CAST);
        }
        due.is("count(0)", x.count(0), 7);
        due.is("failed()", x.failed(), CAST);
    }

    @Says(promise = 20, text = "BAD.")
    private static void countOfNoSuchThing() {
        DialTrain x = full();
        for (int no : new int[] {-1, 7, MIN, MAX}) {
            due.is("count(" + no + ")", x.count(no), BAD);
        }
        for (int what = 0; what <= 6; what++) {
            due.is("count(" + what + ") is there", x.count(what) >= 0 ? 1 : 0, 1);
        }
    }

    @Says(promise = 20, text = "What = 0 SLOTS that hold something")
    private static void countOfSlotsFromNoneToAll() {
        DialTrain x = new DialTrain();
        due.is("count(0) of none", x.count(0), 0);
        for (int slot = 7; slot >= 0; slot--) {
            due.is("row of no items", x.row(slot, slot % 4, 0), 1);
            due.is("count(0)", x.count(0), 8 - slot);
        }
        for (int slot = 1; slot < 8; slot++) {
            due.is("hold(0, ..)", x.hold(0, slot), 1);
        }
        due.is("count(0) of all that hold the very same", x.count(0), 8);
        for (int slot = 0; slot < 8; slot++) {
            due.is("hold(-1, ..)", x.hold(-1, slot), 1);
            due.is("count(0)", x.count(0), 7 - slot);
        }
    }

    @Says(promise = 20, text = "1 WHEELS made in all")
    private static void countOfWheelsMadeAgain() {
        DialTrain x = new DialTrain();
        due.is("count(1)", x.count(1), 0);
        for (int n = 1; n <= 200; n++) {
            due.is("wheel", x.wheel(n % 6, n % 2, n), 1);
            due.is("count(1)", x.count(1), n);
        }
        due.is("wheel, refused", x.wheel(6, WHEEL, 1), BAD);
        due.is("wheel, refused", x.wheel(0, WHEEL, 0), BAD);
        due.is("count(1)", x.count(1), 200);
    }

    private static void countsOnce(int why) {
        for (Refused refused : REFUSED) {
            if (refused.why == why) {
                DialTrain x = full();
                for (int time = 1; time <= 2; time++) {
                    due.is(refused.name, refused.call.on(x), refused.answer());
                    for (int n = 0; n < 5; n++) {
                        int more = NULL - why == n ? time : 0;
                        due.is("count(" + (n + 2) + ") after " + refused.name, x.count(n + 2), n + more);
                    }
                }
            }
        }
    }

    @Says(promise = 20, text = "2 refusals NULL")
    private static void countOfNull() {
        countsOnce(NULL);
    }

    @Says(promise = 20, text = "3 CAST")
    private static void countOfCast() {
        countsOnce(CAST);
    }

    @Says(promise = 20, text = "4 INDEX")
    private static void countOfIndex() {
        countsOnce(INDEX);
    }

    @Says(promise = 20, text = "5 STORE")
    private static void countOfStore() {
        countsOnce(STORE);
    }

    @Says(promise = 20, text = "6 NONE of all calls")
    private static void countOfNone() {
        countsOnce(NONE);
    }

    @Says(promise = 20, text = "2 refusals NULL, 3 CAST, 4 INDEX, 5 STORE, 6 NONE of all calls")
    private static void countOfBadAndSizeIsNotKept() {
        countsOnce(BAD);
        countsOnce(SIZE);
    }

    @Says(promise = 20, text = "those of wind(), train() too")
    private static void countOfWindThatEndsByNone() {
        for (int lane = 0; lane < 2; lane++) {
            DialTrain x = readings(lane, 1.0, ENDLESS, 1.0, ENDLESS);
            long by = bits(lane, 2.0);
            due.is("wind up to the first endless one", x.wind(lane, lane, 0, by), 1);
            refusals(x, 0, 0, 0, 0, 1);
            due.is("wind from it", x.wind(lane, lane, 1, by), 0);
            refusals(x, 0, 0, 0, 0, 2);
            due.is("wind by 0.0", x.wind(lane, lane, 0, 0), 0);
            refusals(x, 0, 0, 0, 0, 3);
            due.is("wind from behind the last by 0.0", x.wind(lane, lane, 4, 0), 0);
            refusals(x, 0, 0, 0, 0, 3);
        }
    }

    @Says(promise = 20, text = "those of wind(), train() too")
    private static void countOfTrainThatEndsByNone() {
        DialTrain x = spindles();
        due.is("put(1, 1, 0, endless)", x.put(1, D, 0, ENDLESS_BITS), 1);
        due.is("put(1, 1, 1, endless below)", x.put(1, D, 1, d(-ENDLESS)), 1);
        due.is("train of a WHEEL and a RATCHET", x.train(2, 0, 1, 0), 0);
        refusals(x, 0, 0, 0, 0, 1);
        due.is("train of a RATCHET", x.train(3, 0, 1, 1), 0);
        refusals(x, 0, 0, 0, 0, 2);
    }

    @Says(promise = 20, text = "of train() NULL by a place is none")
    private static void countOfTrainThatEndsByAPlace() {
        DialTrain x = spindles();
        due.is("train up to a place without one", x.train(2, 0, 1, 0), 2);
        due.is("train from a place without one", x.train(2, 2, 1, 0), 0);
        due.is("put(1, 1, 0, endless)", x.put(1, D, 0, ENDLESS_BITS), 1);
        due.is("train by the endless from a place without one", x.train(2, 2, 1, 0), 0);
        due.is("train from behind the last", x.train(2, 3, 1, 0), 0);
        refusals(x, 0, 0, 0, 0, 0);
        due.is("train by nothing", x.train(2, 2, EMPTY, 0), NULL);
        due.is("train of nothing", x.train(EMPTY, 0, 1, 0), NULL);
        refusals(x, 2, 0, 0, 0, 0);
        due.is("turn of none", x.turn(2, 2, 0), NULL);
        refusals(x, 3, 0, 0, 0, 0);
    }

    @Says(promise = 20, text = "2 refusals NULL, 3 CAST, 4 INDEX, 5 STORE, 6 NONE of all calls")
    private static void countOfOneThatStaysIsNotKept() {
        DialTrain x = spindles();
        due.is("turn of a RATCHET back", x.turn(3, 0, d(-1.0)), 0);
        refusals(x, 0, 0, 0, 0, 0);
    }
}
