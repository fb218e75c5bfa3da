import java.math.BigInteger;

/**
 * The boundary cases that promises 1 to 9 and 11 name (LampEdgesTest holds 10, AnswerEdgesTest 12 to 14),
 * and the last of an object's calls. Each test names its sentence, and asks at the boundary and on both sides of it.
 */
public final class PromiseEdgesTest {
    private static final Check CHECK = new Check();
    private static final int CODE = Cars.FIRST_CODE;
    private static final int[] FAR_OFF = {Integer.MIN_VALUE, Integer.MIN_VALUE + 1, -65536, 65536, Integer.MAX_VALUE - 1,
        Integer.MAX_VALUE};

    public static void main(String[] args) {
        newObject();
        monitorOfNoKindOrCondition();
        cycleRanges();
        howManyHadAChance();
        whichCount();
        countOfNoMonitor();
        ratioOfEveryPair();
        ratioSides();
        ratioOfNoMonitor();
        ratioWithoutAChance();
        readyOfAllButOne();
        readyWithoutMonitors();
        readyOfNoKind();
        howManyCodesAreKnown();
        permanentFromZeroOn();
        permanentInTheOrderOfKnowing();
        clearAnswersHowManyWereConfirmed();
        clearLeavesNothingCountedForConfirmed();
        clearLeavesWhatIsCountedForPermanent();
        clearLeavesOnAndOff();
        clearOfMonitorsAndLamp();
        freezeOfEachPart();
        freezeOfAnotherPart();
        theLastOfItsCalls();
        CHECK.end();
    }

    private static void newObject() {
        CHECK.sentence("Promise 1,", "No monitors, no codes");
        CHECK.same("sum 0, answer 1 1: 65 1 0 0, answer 1 33: 65 33 0 0, answer 2 0:, answer 3 0: 67, answer 7 0: 71,"
            + " answer 9 8: 73 8, answer 10 0: 74, freeze 0, ready 2, freeze 0, ready 2, freeze 0, ready 2,"
            + " freeze 0, ready 2, lamp 0", Cars.everythingOf(new EmissionRows()), "all that a new object tells");
        CHECK.due(1, new EmissionRows().monitor(0, 0), "the first monitor(0, 0)");
        CHECK.due(1, new EmissionRows().fault(1, false), "the first fault(1, false)");
        CHECK.due(0, new EmissionRows().cycle(255, 65535), "the first cycle(255, 65535)");
        CHECK.due(0, new EmissionRows().clear(), "the first clear()");
    }

    private static void monitorOfNoKindOrCondition() {
        CHECK.sentence("Promise 2,", "-2 the KIND or the CONDITION is none, -4 there are 16");
        for (int made : new int[] {0, 15, 16}) {
            for (int kind = -1; kind <= 4; kind++) {
                for (int condition = -1; condition <= 8; condition++) {
                    boolean isOne = kind >= 0 && kind <= 3 && condition >= 0 && condition <= 7;
                    EmissionRows rows = Cars.withMonitors(made, 0, 0);
                    CHECK.due(!isOne ? -2 : made == 16 ? -4 : made + 1, rows.monitor(kind, condition),
                        "monitor(" + kind + ", " + condition + ") with " + made);
                }
            }
            EmissionRows rows = Cars.withMonitors(made, 0, 0);
            for (int far : FAR_OFF) {
                CHECK.due(-2, rows.monitor(far, 0), "monitor(" + far + ", 0) with " + made);
                CHECK.due(-2, rows.monitor(0, far), "monitor(0, " + far + ") with " + made);
            }
        }
    }

    private static void cycleRanges() {
        CHECK.sentence("Promise 3,", "-2 conditions or tests are below 0, or above 255, 65535");
        for (int conditions : new int[] {-2, -1, 0, 1, 254, 255, 256, 257, 65535}) {
            for (int tests : new int[] {-2, -1, 0, 1, 65534, 65535, 65536, 65537}) {
                boolean fits = conditions >= 0 && conditions <= 255 && tests >= 0 && tests <= 65535;
                EmissionRows rows = Cars.withMonitors(1, 0, 0);
                rows.fault(CODE, true);
                CHECK.due(fits ? conditions % 2 : -2, rows.cycle(conditions, tests),
                    "cycle(" + conditions + ", " + tests + ")");
                CHECK.due(fits ? conditions % 2 : 0, rows.count(1, 1), "CHANCES behind it");
                CHECK.due(fits ? tests % 2 : 0, rows.ready(0), "ready(0) behind it");
                CHECK.due(fits ? 1 : 0, rows.freeze(1), "freeze(1) behind it");
            }
        }
        for (int far : FAR_OFF) {
            CHECK.due(-2, new EmissionRows().cycle(far, 0), "cycle(" + far + ", 0)");
            CHECK.due(-2, new EmissionRows().cycle(0, far), "cycle(0, " + far + ")");
        }
    }

    private static void howManyHadAChance() {
        CHECK.sentence("Promise 3,", "A CYCLE ends: how many monitors had a CHANCE");
        for (int many : new int[] {0, 1, 2, 15, 16}) {
            EmissionRows rows = Cars.withMonitors(many, 0, 0);
            CHECK.due(0, rows.cycle(254, 65535), "cycle of none of " + many);
            CHECK.due(many, rows.cycle(1, 0), "cycle of all of " + many);
            Cars.cycles(rows, 99, 1, 0);
            CHECK.due(many, rows.cycle(1, 0), "cycle of all of " + many + " that are halved");
        }
        EmissionRows half = Cars.withMonitors(8, 0, 0);
        for (int m = 0; m < 8; m++) {
            half.monitor(3, 0);
        }
        CHECK.due(8, half.cycle(1, 0), "cycle of the first half");
        CHECK.due(8, half.cycle(0, 0), "cycle of the second half");
    }

    private static void whichCount() {
        CHECK.sentence("Promise 4,", "A monitor's RUNS (which = 0) or CHANCES (others)");
        EmissionRows rows = Cars.withMonitors(1, 0, 0);
        Cars.cycles(rows, 2, 1, 1);
        Cars.cycles(rows, 3, 1, 0);
        for (int which = -3; which <= 3; which++) {
            CHECK.due(which == 0 ? 2 : 5, rows.count(1, which), "count(1, " + which + ")");
        }
        for (int far : FAR_OFF) {
            CHECK.due(5, rows.count(1, far), "count(1, " + far + ")");
        }
    }

    private static void countOfNoMonitor() {
        CHECK.sentence("Promise 4,", "-1 there is none");
        for (int made : new int[] {0, 1, 2, 15, 16}) {
            EmissionRows rows = Cars.withMonitors(made, 0, 0);
            rows.cycle(1, 65535);
            for (int m = -2; m <= 18; m++) {
                CHECK.due(m >= 1 && m <= made ? 1 : -1, rows.count(m, m % 2), "count(" + m + ", ..) with " + made);
            }
            for (int far : FAR_OFF) {
                CHECK.due(-1, rows.count(far, 0), "count(" + far + ", 0) with " + made);
            }
        }
    }

    private static void ratioOfEveryPair() {
        CHECK.sentence("Promise 5,", "RUNS / CHANCES of a monitor in lowest terms");
        for (int runs = 0; runs <= 100; runs++) {
            EmissionRows rows = Cars.withMonitors(1, 0, 0);
            Cars.cycles(rows, runs, 1, 1);
            for (int chances = Math.max(1, runs); chances <= 100; chances++) {
                if (chances > runs) {
                    rows.cycle(1, 0);
                }
                int divisor = BigInteger.valueOf(runs).gcd(BigInteger.valueOf(chances)).intValue();
                CHECK.due(runs / divisor, rows.ratio(1, 0), "above " + runs + " / " + chances);
                CHECK.due(chances / divisor, rows.ratio(1, 1), "below " + runs + " / " + chances);
            }
        }
    }

    private static void ratioSides() {
        CHECK.sentence("Promise 5,", "side 0 what is above, others what is below");
        EmissionRows rows = Cars.withMonitors(1, 0, 0);
        Cars.cycles(rows, 4, 1, 1);
        Cars.cycles(rows, 2, 1, 0);
        for (int side = -3; side <= 3; side++) {
            CHECK.due(side == 0 ? 2 : 3, rows.ratio(1, side), "ratio(1, " + side + ") of 4 / 6");
        }
        for (int far : FAR_OFF) {
            CHECK.due(3, rows.ratio(1, far), "ratio(1, " + far + ") of 4 / 6");
        }
    }

    private static void ratioOfNoMonitor() {
        CHECK.sentence("Promise 5,", "-1 there is none");
        for (int made : new int[] {0, 1, 2, 15, 16}) {
            EmissionRows rows = Cars.withMonitors(made, 0, 0);
            for (int none : new int[] {-2, -1, 0, made + 1, made + 2, 17, 18}) {
                CHECK.due(-1, rows.ratio(none, 0), "ratio(" + none + ", 0) with " + made);
                CHECK.due(-1, rows.ratio(none, 1), "ratio(" + none + ", 1) with " + made);
            }
            rows.cycle(1, 0);
            for (int m = 1; m <= made; m++) {
                CHECK.due(0, rows.ratio(m, 0), "ratio(" + m + ", 0) with " + made);
                CHECK.due(1, rows.ratio(m, 1), "ratio(" + m + ", 1) with " + made);
            }
            for (int far : FAR_OFF) {
                CHECK.due(-1, rows.ratio(far, 0), "ratio(" + far + ", 0) with " + made);
            }
        }
    }

    private static void ratioWithoutAChance() {
        CHECK.sentence("Promise 5,", "ArithmeticException when it had no CHANCE");
        EmissionRows rows = Cars.withMonitors(2, 0, 0);
        rows.monitor(0, 1);
        noRatio(rows, 1);
        noRatio(rows, 2);
        rows.cycle(0, 65535);
        noRatio(rows, 1);
        rows.cycle(1, 2);
        CHECK.due(0, rows.ratio(1, 0), "ratio(1, 0) of 0 / 1");
        CHECK.due(1, rows.ratio(1, 1), "ratio(1, 1) of 0 / 1");
        CHECK.due(1, rows.ratio(2, 0), "ratio(2, 0) of 1 / 1");
        CHECK.due(1, rows.ratio(2, 1), "ratio(2, 1) of 1 / 1");
        noRatio(rows, 3);
        rows.clear();
        CHECK.due(1, rows.ratio(2, 1), "ratio(2, 1) behind clear()");
        noRatio(rows, 3);
        rows.cycle(2, 0);
        CHECK.due(1, rows.ratio(3, 1), "ratio(3, 1) of 0 / 1");
    }

    private static void noRatio(EmissionRows rows, int monitor) {
        for (int side : new int[] {-1, 0, 1}) {
            CHECK.thrown(ArithmeticException.class, () -> rows.ratio(monitor, side), "ratio(" + monitor + ", " + side + ")");
        }
    }

    private static void readyOfAllButOne() {
        CHECK.sentence("Promise 6,", "Whether all monitors of a KIND are READY: 1 or 0");
        for (int kind = 0; kind <= 3; kind++) {
            for (int many : new int[] {1, 2, 15, 16}) {
                EmissionRows rows = Cars.withMonitors(many, kind, 0);
                CHECK.due(0, rows.ready(kind), "ready(" + kind + "), none of " + many);
                for (int m = 1; m <= many; m++) {
                    CHECK.due(0, rows.ready(kind), "ready(" + kind + "), all but " + (many + 1 - m) + " of " + many);
                    rows.cycle(0, 1 << m - 1);
                }
                CHECK.due(1, rows.ready(kind), "ready(" + kind + "), all of " + many);
                rows.clear();
                CHECK.due(0, rows.ready(kind), "ready(" + kind + ") behind clear()");
                rows.cycle(0, 65535);
                CHECK.due(1, rows.ready(kind), "ready(" + kind + "), all again");
            }
        }
    }

    private static void readyWithoutMonitors() {
        CHECK.sentence("Promise 6,", "2 if there are none");
        for (int kind = 0; kind <= 3; kind++) {
            EmissionRows rows = new EmissionRows();
            CHECK.due(2, rows.ready(kind), "ready(" + kind + ") without monitors");
            for (int other = 0; other <= 3; other++) {
                if (other != kind) {
                    rows.monitor(other, 0);
                }
            }
            CHECK.due(2, rows.ready(kind), "ready(" + kind + ") with the other KINDS");
            rows.cycle(255, 65535);
            CHECK.due(2, rows.ready(kind), "ready(" + kind + ") with the other KINDS, READY");
            rows.monitor(kind, 0);
            CHECK.due(0, rows.ready(kind), "ready(" + kind + ") with one");
        }
    }

    private static void readyOfNoKind() {
        CHECK.sentence("Promise 6,", "-2 there is no such KIND");
        for (int made : new int[] {0, 16}) {
            EmissionRows rows = Cars.withMonitors(made, 0, 0);
            for (int none : new int[] {-2, -1, 4, 5}) {
                CHECK.due(-2, rows.ready(none), "ready(" + none + ") with " + made);
            }
            CHECK.due(made == 0 ? 2 : 0, rows.ready(0), "ready(0) with " + made);
            CHECK.due(2, rows.ready(3), "ready(3) with " + made);
            for (int far : FAR_OFF) {
                CHECK.due(-2, rows.ready(far), "ready(" + far + ") with " + made);
            }
        }
    }

    private static void howManyCodesAreKnown() {
        CHECK.sentence("Promise 7,", "how many codes are known. -2 there is no such code, -4 it is not known, and there are 20");
        EmissionRows rows = new EmissionRows();
        for (int k = 1; k <= 20; k++) {
            CHECK.due(-2, rows.fault(0, true), "fault(0, true) with " + (k - 1));
            CHECK.due(k, rows.fault(CODE + k, k % 2 == 0), "code " + k);
            CHECK.due(k, rows.fault(CODE + k, k % 2 == 1), "code " + k + " again");
            CHECK.due(k, rows.fault(CODE + 1, true), "code 1 with " + k);
            CHECK.due(-2, rows.fault(65536, false), "fault(65536, false) with " + k);
        }
        CHECK.due(-4, rows.fault(CODE, true), "code 21");
        CHECK.due(-2, rows.fault(0, true), "fault(0, true) with 20");
        CHECK.due(-2, rows.fault(65536, true), "fault(65536, true) with 20");
        for (int far : FAR_OFF) {
            CHECK.due(-2, rows.fault(far, true), "fault(" + far + ", true) with 20");
        }
        Cars.cycles(rows, 5, 1, 0);
        CHECK.due(-4, rows.fault(CODE, false), "code 21 behind CYCLES that healed some");
        CHECK.due(20, rows.fault(CODE + 20, false), "code 20 behind CYCLES");
    }

    private static void permanentFromZeroOn() {
        CHECK.sentence("Promise 8,", "The i-th (from 0) PERMANENT code .. 0 if there is none");
        for (int many : new int[] {0, 1, 2, 19, 20}) {
            EmissionRows rows = Cars.withPending(many);
            CHECK.due(0, rows.permanent(0), "permanent(0) of " + many + " PENDING codes");
            rows.cycle(0, 0);
            for (int i = -2; i <= 22; i++) {
                CHECK.due(i >= 0 && i < many ? CODE + i : 0, rows.permanent(i), "permanent(" + i + ") of " + many);
            }
            for (int far : FAR_OFF) {
                CHECK.due(0, rows.permanent(far), "permanent(" + far + ") of " + many);
            }
        }
    }

    private static void permanentInTheOrderOfKnowing() {
        CHECK.sentence("Promise 8,", "in the order in which they came to be known");
        EmissionRows rows = new EmissionRows();
        rows.fault(30, false);
        rows.fault(10, false);
        rows.fault(20, true);
        Cars.cycles(rows, 2, 0, 0);
        permanents(rows, 20, 0, 0);
        rows.fault(10, true);
        Cars.cycles(rows, 2, 0, 0);
        permanents(rows, 10, 20, 0);
        rows.fault(30, true);
        Cars.cycles(rows, 2, 0, 0);
        permanents(rows, 30, 10, 20);
        rows.fault(10, false);
        Cars.cycles(rows, 2, 1, 0);
        permanents(rows, 30, 10, 20);
        rows.cycle(1, 0);
        permanents(rows, 30, 20, 0);
        rows.fault(10, true);
        Cars.cycles(rows, 2, 0, 0);
        permanents(rows, 30, 10, 20);
    }

    private static void permanents(EmissionRows rows, int first, int second, int third) {
        CHECK.due(0, rows.permanent(-1), "permanent(-1)");
        CHECK.due(first, rows.permanent(0), "permanent(0)");
        CHECK.due(second, rows.permanent(1), "permanent(1)");
        CHECK.due(third, rows.permanent(2), "permanent(2)");
        CHECK.due(0, rows.permanent(3), "permanent(3)");
    }

    private static void clearAnswersHowManyWereConfirmed() {
        CHECK.sentence("Promise 9,", "how many were CONFIRMED");
        for (int many : new int[] {0, 1, 2, 19, 20}) {
            EmissionRows pending = Cars.withPending(many);
            CHECK.due(0, pending.clear(), "clear() of " + many + " PENDING codes");
            pending.cycle(0, 0);
            CHECK.due(0, pending.clear(), "clear() of " + many + " codes that are PENDING again");
            EmissionRows rows = Cars.withConfirmed(many);
            CHECK.due(many, rows.clear(), "clear() of " + many + " CONFIRMED codes");
            CHECK.due(0, rows.clear(), "clear() of " + many + " cleared codes");
        }
        for (int off = 0; off <= 4; off++) {
            EmissionRows rows = Cars.withConfirmed(2);
            rows.fault(CODE, false);
            Cars.cycles(rows, off, 0, 0);
            CHECK.due(off < 3 ? 2 : 1, rows.clear(), "clear() with one of two OFF in " + off + " CYCLES");
        }
    }

    /** Cleared one CYCLE before, at and behind the third, a code that is CONFIRMED anew counts from 0. */
    private static void clearLeavesNothingCountedForConfirmed() {
        CHECK.sentence("Promise 9,", "no code is PENDING or CONFIRMED, their rows and what they counted so are gone");
        for (int off = 0; off <= 4; off++) {
            EmissionRows rows = Cars.withConfirmed(1);
            rows.fault(CODE, false);
            Cars.cycles(rows, off, 0, 0);
            rows.clear();
            CHECK.same("L", Cars.stateOf(rows, CODE), "cleared when OFF in " + off);
            rows.fault(CODE, true);
            rows.cycle(0, 0);
            CHECK.same("PLF", Cars.stateOf(rows, CODE), "ON for one CYCLE, cleared when OFF in " + off);
            rows.cycle(0, 0);
            CHECK.same("CLF", Cars.stateOf(rows, CODE), "ON for two CYCLES, cleared when OFF in " + off);
            rows.fault(CODE, false);
            Cars.cycles(rows, 2, 0, 0);
            CHECK.same("CLF", Cars.stateOf(rows, CODE), "OFF in 2, cleared when OFF in " + off);
            rows.cycle(0, 0);
            CHECK.same("L", Cars.stateOf(rows, CODE), "OFF in 3, cleared when OFF in " + off);
        }
    }

    private static void clearLeavesWhatIsCountedForPermanent() {
        CHECK.sentence("Promise 9,", "PERMANENT and what is counted for that stay");
        for (int before = 0; before <= 4; before++) {
            EmissionRows rows = Cars.withConfirmed(1);
            rows.fault(CODE, false);
            for (int off = 1; off <= 4; off++) {
                if (off == before + 1) {
                    rows.clear();
                }
                rows.cycle(1, 0);
                rows.cycle(254, 0);
                CHECK.due(off < 3 ? CODE : 0, rows.permanent(0), "OFF in " + off + ", cleared when OFF in " + before);
            }
        }
    }

    private static void clearLeavesOnAndOff() {
        CHECK.sentence("Promise 9,", "PERMANENT and what is counted for that stay, also ON and OFF");
        EmissionRows rows = Cars.withConfirmed(2);
        rows.fault(CODE, false);
        rows.clear();
        rows.cycle(0, 0);
        CHECK.same("L", Cars.stateOf(rows, CODE), "a code that was OFF");
        CHECK.same("PLF", Cars.stateOf(rows, CODE + 1), "a code that was ON");
        rows.clear();
        rows.cycle(0, 0);
        CHECK.same("PLF", Cars.stateOf(rows, CODE + 1), "a code that was ON and PENDING, cleared again");
        CHECK.due(4, rows.freeze(1), "freeze(1) of the new row");
    }

    private static void clearOfMonitorsAndLamp() {
        CHECK.sentence("Promise 9,", "no monitor is READY, the LAMP is off, METRES and MINUTES 0");
        EmissionRows rows = Cars.withConfirmed(1);
        for (int m = 0; m < 16; m++) {
            rows.monitor(m % 4, 0);
        }
        rows.cycle(1, 65535);
        rows.lamp(70000, 70);
        CHECK.answer(rows, 1, 1, 65, 1, 129, 0);
        rows.clear();
        CHECK.answer(rows, 1, 1, 65, 1, 0, 15);
        CHECK.answer(rows, 1, 33, 65, 33, 0, 0);
        CHECK.due(0, rows.freeze(3), "freeze(3) behind clear()");
        CHECK.due(0, rows.lamp(1000, 1), "lamp(1000, 1) behind clear()");
        for (int m = 1; m <= 16; m++) {
            CHECK.due(m % 4 == 1 ? 1 : 0, rows.count(m, 0), "RUNS of " + m + " behind clear()");
            CHECK.due(m % 4 == 1 ? 1 : 0, rows.count(m, 1), "CHANCES of " + m + " behind clear()");
        }
    }

    private static void freezeOfEachPart() {
        CHECK.sentence("Promise 11,", "Of the first FROZEN row: i = 0 its code, 1 its CYCLE, 2 its CONDITIONS");
        int[][] due = {{1, 0}, {1, 255}, {65535, 1}, {65534, 254}, {256, 128}};
        for (int[] one : due) {
            for (int before : new int[] {0, 1, 300}) {
                EmissionRows rows = new EmissionRows();
                Cars.cycles(rows, before, 170, 0);
                rows.fault(one[0], true);
                for (int i = 0; i <= 3; i++) {
                    CHECK.due(0, rows.freeze(i), "freeze(" + i + ") without a FROZEN row");
                }
                rows.cycle(one[1], 0);
                CHECK.due(one[0], rows.freeze(0), "freeze(0)");
                CHECK.due(before + 1, rows.freeze(1), "freeze(1)");
                CHECK.due(one[1], rows.freeze(2), "freeze(2)");
                CHECK.due(0, rows.freeze(3), "freeze(3)");
            }
        }
    }

    private static void freezeOfAnotherPart() {
        CHECK.sentence("Promise 11,", "-2 another i");
        for (EmissionRows rows : new EmissionRows[] {new EmissionRows(), Cars.withPending(1), Cars.withConfirmed(20)}) {
            for (int i : new int[] {-3, -2, -1, 4, 5, 6}) {
                CHECK.due(-2, rows.freeze(i), "freeze(" + i + ")");
            }
            for (int far : FAR_OFF) {
                CHECK.due(-2, rows.freeze(far), "freeze(" + far + ")");
            }
        }
    }

    private static void theLastOfItsCalls() {
        CHECK.sentence("What it is,", "An object is used for at most 512 calls after it has been made");
        for (int call = 511; call <= 512; call++) {
            EmissionRows rows = Cars.withMonitors(1, 2, 0);
            Cars.cycles(rows, call - 4, 1, 0);
            rows.fault(CODE, true);
            CHECK.due(call % 2 == 1 ? 1 : 0, rows.cycle(1, 0), "cycle, the call before the last of " + call);
            CHECK.due(call - 3, rows.freeze(1), "freeze(1), call " + call);
        }
        for (int call = 511; call <= 512; call++) {
            EmissionRows rows = Cars.withConfirmed(1);
            for (int c = 4; c < call - 1; c++) {
                rows.lamp(1000000000L, 1000000000L);
            }
            CHECK.due(1, rows.lamp(0, 0), "lamp(0, 0), the call before the last of " + call);
            CHECK.due(65535, rows.freeze(3), "freeze(3), call " + call);
        }
    }
}
