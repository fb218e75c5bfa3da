/**
 * The boundary cases that the document names for the LAMP: step 3 of a CYCLE in "Terms", promise 10,
 * and the LAMP's part of promise 11. Each test names its sentence, and asks at the boundary and on
 * both sides of it.
 */
public final class LampEdgesTest {
    private static final Check CHECK = new Check();
    private static final String STEP_3 = "Terms, step 3,";
    private static final String PROMISE_10 = "Promise 10,";
    private static final String PROMISE_11 = "Promise 11,";
    private static final int CODE = Cars.FIRST_CODE;
    private static final long MOST = 1000000000L;

    public static void main(String[] args) {
        onIfSomeCodeIsConfirmed();
        onWithTheFirstAndOffWithTheLast();
        offWithPendingAndPermanentAlone();
        followsInTheCycleAlone();
        zeroWhenItGoesOn();
        notZeroWhileItStaysOn();
        notZeroWhenItGoesOff();
        addedIfItIsOn();
        notAddedIfItIsOff();
        eachFromZeroToItsMost();
        refusedOnesAddNothing();
        addedWithoutAnEnd();
        minutesAtMostTwoOctets();
        minutesWithoutAFrozenRow();
        CHECK.end();
    }

    private static void onIfSomeCodeIsConfirmed() {
        CHECK.sentence(STEP_3, "The LAMP is on if some code is CONFIRMED, otherwise off");
        for (int many : new int[] {0, 1, 2, 19, 20}) {
            EmissionRows rows = Cars.withCodes(many, true);
            lamp(rows, false, many + " codes that were told");
            rows.cycle(0, 0);
            lamp(rows, false, many + " PENDING codes");
            rows.cycle(0, 0);
            lamp(rows, many > 0, many + " CONFIRMED codes");
            Cars.tellAll(rows, many, false);
            Cars.cycles(rows, 2, 0, 0);
            lamp(rows, many > 0, many + " codes OFF in 2 CYCLES");
            rows.cycle(0, 0);
            lamp(rows, false, many + " codes OFF in 3 CYCLES");
            rows.cycle(0, 0);
            lamp(rows, false, many + " codes OFF in 4 CYCLES");
        }
    }

    private static void lamp(EmissionRows rows, boolean on, String state) {
        CHECK.due(on ? 1 : 0, rows.lamp(0, 0), "lamp(0, 0) with " + state);
        rows.answer(1, 1);
        CHECK.due(on ? 1 : 0, (rows.at(2) & 128) / 128, "the LAMP's bit of answer(1, 1) with " + state);
    }

    private static void onWithTheFirstAndOffWithTheLast() {
        CHECK.sentence(STEP_3, "The LAMP is on if some code is CONFIRMED, otherwise off");
        EmissionRows rows = Cars.withConfirmed(1);
        rows.fault(CODE + 1, true);
        Cars.cycles(rows, 2, 0, 0);
        lamp(rows, true, "two CONFIRMED codes");
        rows.fault(CODE, false);
        Cars.cycles(rows, 3, 0, 0);
        CHECK.answer(rows, 3, 0, Cars.list(67, 1, 2));
        lamp(rows, true, "the second one CONFIRMED");
        rows.fault(CODE + 1, false);
        Cars.cycles(rows, 2, 0, 0);
        lamp(rows, true, "the second one OFF in 2 CYCLES");
        rows.cycle(0, 0);
        lamp(rows, false, "no one CONFIRMED");
    }

    private static void offWithPendingAndPermanentAlone() {
        CHECK.sentence(STEP_3, "The LAMP is on if some code is CONFIRMED, otherwise off");
        EmissionRows rows = Cars.withConfirmed(1);
        rows.clear();
        rows.cycle(0, 0);
        CHECK.same("PLF", Cars.stateOf(rows, CODE), "the code's state behind clear() and a CYCLE");
        lamp(rows, false, "a code that is PENDING and PERMANENT");
        rows.cycle(0, 0);
        lamp(rows, true, "a code that is CONFIRMED again");
    }

    private static void followsInTheCycleAlone() {
        CHECK.sentence(STEP_3, "The LAMP is on if some code is CONFIRMED, otherwise off");
        EmissionRows rows = Cars.withPending(1);
        rows.fault(CODE, true);
        CHECK.due(-2, rows.cycle(-1, 0), "cycle(-1, 0), which is none");
        lamp(rows, false, "a PENDING code that is told ON");
        rows.cycle(0, 0);
        rows.fault(CODE, false);
        lamp(rows, true, "a CONFIRMED code that is told OFF");
        Cars.cycles(rows, 2, 0, 0);
        CHECK.due(-2, rows.cycle(0, 65536), "cycle(0, 65536), which is none");
        lamp(rows, true, "a CONFIRMED code OFF in 2 CYCLES, and a refused one");
    }

    private static void zeroWhenItGoesOn() {
        CHECK.sentence(STEP_3, "when it goes on, its METRES and MINUTES are 0");
        EmissionRows rows = Cars.withPending(1);
        rows.lamp(9000, 9);
        rows.cycle(0, 0);
        way(rows, 0, 0, "when it went on for the first time");
        rows.lamp(5000, 7);
        way(rows, 5, 7, "while it is on");
        rows.fault(CODE, false);
        Cars.cycles(rows, 3, 0, 0);
        rows.fault(CODE, true);
        Cars.cycles(rows, 2, 0, 0);
        way(rows, 0, 0, "when it went on for the second time");
        rows.lamp(1000, 1);
        way(rows, 1, 1, "while it is on again");
    }

    private static void way(EmissionRows rows, int kilometres, int minutes, String when) {
        CHECK.due(minutes, rows.freeze(3), "freeze(3) " + when);
        CHECK.due(4, rows.answer(1, 33), "answer(1, 33) " + when);
        CHECK.due(kilometres, (rows.at(2) & 255) * 256 + (rows.at(3) & 255), "METRES by 1000 " + when);
    }

    private static void notZeroWhileItStaysOn() {
        CHECK.sentence(STEP_3, "when it goes on, its METRES and MINUTES are 0");
        EmissionRows rows = Cars.withConfirmed(1);
        rows.lamp(5000, 7);
        rows.cycle(0, 0);
        way(rows, 5, 7, "a CYCLE behind");
        rows.fault(CODE + 1, true);
        Cars.cycles(rows, 2, 0, 0);
        way(rows, 5, 7, "when a second code is CONFIRMED");
        rows.fault(CODE, false);
        Cars.cycles(rows, 3, 0, 0);
        way(rows, 5, 7, "when the first code is CONFIRMED no more");
    }

    /** The document says 0 for going on and for clear() alone, so going off leaves both as they are. */
    private static void notZeroWhenItGoesOff() {
        CHECK.sentence(STEP_3, "when it goes on, its METRES and MINUTES are 0");
        EmissionRows rows = Cars.withConfirmed(1);
        rows.lamp(5000, 7);
        rows.fault(CODE, false);
        Cars.cycles(rows, 2, 0, 0);
        way(rows, 5, 7, "the CYCLE before it goes off");
        rows.cycle(0, 0);
        lamp(rows, false, "no code CONFIRMED");
        way(rows, 5, 7, "when it goes off");
        rows.fault(CODE, true);
        rows.cycle(0, 0);
        way(rows, 5, 7, "the CYCLE before it goes on");
        rows.cycle(0, 0);
        way(rows, 0, 0, "when it goes on");
    }

    private static void addedIfItIsOn() {
        CHECK.sentence(PROMISE_10, "1 if the LAMP is on (then both are added)");
        EmissionRows rows = Cars.withConfirmed(1);
        CHECK.due(1, rows.lamp(0, 0), "lamp(0, 0)");
        way(rows, 0, 0, "with nothing added");
        CHECK.due(1, rows.lamp(999, 1), "lamp(999, 1)");
        way(rows, 0, 1, "with 999 metres");
        CHECK.due(1, rows.lamp(1, 0), "lamp(1, 0)");
        way(rows, 1, 1, "with 1000 metres");
        CHECK.due(1, rows.lamp(0, 2), "lamp(0, 2)");
        way(rows, 1, 3, "with 3 minutes");
    }

    private static void notAddedIfItIsOff() {
        CHECK.sentence(PROMISE_10, "1 if the LAMP is on (then both are added), otherwise 0");
        EmissionRows rows = Cars.withPending(1);
        CHECK.due(0, rows.lamp(MOST, MOST), "lamp at its most, off");
        way(rows, 0, 0, "off");
        rows.cycle(0, 0);
        way(rows, 0, 0, "when it goes on");
        CHECK.due(1, rows.lamp(2000, 2), "lamp(2000, 2)");
        rows.fault(CODE, false);
        Cars.cycles(rows, 3, 0, 0);
        CHECK.due(0, rows.lamp(4000, 4), "lamp(4000, 4), off again");
        way(rows, 2, 2, "off again");
        rows.clear();
        CHECK.due(0, rows.lamp(4000, 4), "lamp(4000, 4) behind clear()");
        way(rows, 0, 0, "behind clear()");
    }

    private static void eachFromZeroToItsMost() {
        CHECK.sentence(PROMISE_10, "-2 one of them is not 0 .. 1000000000");
        long[] asked = {Long.MIN_VALUE, -(1L << 32), -2, -1, 0, 1, MOST - 1, MOST, MOST + 1, MOST + 2,
            1L << 32, (1L << 32) + 1, Long.MAX_VALUE};
        for (boolean on : new boolean[] {true, false}) {
            EmissionRows rows = on ? Cars.withConfirmed(1) : new EmissionRows();
            for (long metres : asked) {
                for (long minutes : asked) {
                    boolean fits = metres >= 0 && metres <= MOST && minutes >= 0 && minutes <= MOST;
                    CHECK.due(fits ? (on ? 1 : 0) : -2, rows.lamp(metres, minutes),
                        "lamp(" + metres + ", " + minutes + ")");
                }
            }
        }
    }

    private static void refusedOnesAddNothing() {
        CHECK.sentence(PROMISE_10, "-2 one of them is not 0 .. 1000000000");
        EmissionRows rows = Cars.withConfirmed(1);
        rows.lamp(3000, 3);
        for (long[] refused : new long[][] {{-1, 5}, {5000, -1}, {MOST + 1, 5}, {5000, MOST + 1}, {-1, MOST + 1}}) {
            CHECK.due(-2, rows.lamp(refused[0], refused[1]), "lamp(" + refused[0] + ", " + refused[1] + ")");
            way(rows, 3, 3, "behind a refusal");
        }
    }

    /** Sums beyond 2 to the 31st and 2 to the 32nd, where a count of 32 bits would wrap around. */
    private static void addedWithoutAnEnd() {
        CHECK.sentence(PROMISE_10, "then both are added");
        EmissionRows rows = Cars.withConfirmed(1);
        for (int times = 1; times <= 80; times++) {
            CHECK.due(1, rows.lamp(MOST, MOST), "lamp at its most");
            way(rows, 65535, 65535, "at " + times + " times the most");
        }
    }

    private static void minutesAtMostTwoOctets() {
        CHECK.sentence(PROMISE_11, "3 the LAMP's MINUTES (65535 at most)");
        EmissionRows rows = Cars.withConfirmed(1);
        rows.lamp(0, 65533);
        for (int minutes = 65534; minutes <= 65540; minutes++) {
            rows.lamp(0, 1);
            CHECK.due(Math.min(minutes, 65535), rows.freeze(3), "freeze(3) at " + minutes);
        }
        rows.lamp(0, 65536);
        CHECK.due(65535, rows.freeze(3), "freeze(3) far above");
    }

    private static void minutesWithoutAFrozenRow() {
        CHECK.sentence(PROMISE_11, "0 without one (but for 3)");
        EmissionRows rows = Cars.withConfirmed(1);
        rows.lamp(0, 8);
        CHECK.due(8, rows.freeze(3), "freeze(3) with a FROZEN row");
        rows.fault(CODE, false);
        Cars.cycles(rows, 3, 255, 0);
        CHECK.due(0, rows.freeze(0), "freeze(0) without a FROZEN row");
        CHECK.due(0, rows.freeze(1), "freeze(1) without a FROZEN row");
        CHECK.due(0, rows.freeze(2), "freeze(2) without a FROZEN row");
        CHECK.due(8, rows.freeze(3), "freeze(3) without a FROZEN row");
        CHECK.due(0, new EmissionRows().freeze(3), "freeze(3) of a new object");
    }
}
