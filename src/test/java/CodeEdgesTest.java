/**
 * The boundary cases that the document's "Terms" name for codes, for the numbers of CYCLES and for
 * step 2 of a CYCLE. Each test names its sentence, and asks at the boundary and on both sides of it.
 */
public final class CodeEdgesTest {
    private static final Check CHECK = new Check();
    private static final String TERMS = "Terms,";
    private static final String STEP_2 = "Terms, step 2,";
    private static final int CODE = Cars.FIRST_CODE;
    private static final int ALL_BUT_ZERO = 254;

    public static void main(String[] args) {
        codesFromOneOn();
        atMostTwentyKnown();
        cyclesFromOneOn();
        theLastWordCounts();
        notToldIsAsItWas();
        pendingThenConfirmed();
        confirmedStaysWhileOn();
        frozenInTheCycleOfPending();
        everyRowOfConditionsFreezes();
        pendingUntilOneCycleOff();
        confirmedUntilThreeCyclesOff();
        confirmedCountsOneBehindTheOther();
        permanentUntilThreeWithConditionZero();
        permanentCountsNotOnlyOneBehindTheOther();
        permanentNeedsConditionZero();
        permanentCountsSinceItWasOnLast();
        permanentAndConfirmedCountApart();
        whatIsPermanentMayBePendingAgain();
        eachCodeCountsForItself();
        CHECK.end();
    }

    private static void codesFromOneOn() {
        CHECK.sentence(TERMS, "CODES are 1 to 65535");
        for (boolean on : new boolean[] {true, false}) {
            EmissionRows rows = new EmissionRows();
            for (int none : new int[] {Integer.MIN_VALUE, -65536, -2, -1, 0}) {
                CHECK.due(-2, rows.fault(none, on), "fault(" + none + ", " + on + ")");
            }
            CHECK.due(1, rows.fault(1, on), "fault(1, " + on + ")");
            CHECK.due(2, rows.fault(2, on), "fault(2, " + on + ")");
            CHECK.due(3, rows.fault(65534, on), "fault(65534, " + on + ")");
            CHECK.due(4, rows.fault(65535, on), "fault(65535, " + on + ")");
            for (int none : new int[] {65536, 65537, 131071, 131072, Integer.MAX_VALUE}) {
                CHECK.due(-2, rows.fault(none, on), "fault(" + none + ", " + on + ")");
            }
            rows.cycle(0, 0);
            if (on) {
                CHECK.answer(rows, 7, 0, 71, 0, 1, 0, 2, 255, 254, 255, 255);
            } else {
                CHECK.answer(rows, 7, 0, 71);
            }
        }
    }

    private static void atMostTwentyKnown() {
        CHECK.sentence(TERMS, "at most 20 are known");
        for (boolean on : new boolean[] {true, false}) {
            EmissionRows rows = Cars.withCodes(18, on);
            CHECK.due(18, rows.fault(CODE, on), "a known code with 18");
            CHECK.due(19, rows.fault(CODE + 18, on), "the 19th code");
            CHECK.due(20, rows.fault(CODE + 19, on), "the 20th code");
            CHECK.due(-4, rows.fault(CODE + 20, on), "the 21st code");
            CHECK.due(-4, rows.fault(1, !on), "the 21st code, another one");
            CHECK.due(20, rows.fault(CODE, on), "the first code with 20");
            CHECK.due(20, rows.fault(CODE + 19, on), "the last code with 20");
            rows.cycle(0, 0);
            CHECK.answer(rows, 7, 0, Cars.list(71, on ? 20 : 0));
            rows.clear();
            CHECK.due(-4, rows.fault(CODE + 20, on), "the 21st code behind clear()");
            CHECK.due(20, rows.fault(CODE, on), "the first code behind clear()");
        }
    }

    private static void cyclesFromOneOn() {
        CHECK.sentence(TERMS, "CYCLES are counted from 1 on");
        for (int before : new int[] {0, 1, 2, 254, 255, 256}) {
            EmissionRows rows = new EmissionRows();
            Cars.cycles(rows, before, 0, 0);
            CHECK.due(-2, rows.cycle(256, 0), "cycle(256, 0), which is none");
            rows.clear();
            rows.fault(CODE, true);
            CHECK.due(0, rows.freeze(1), "freeze(1) before its CYCLE");
            rows.cycle(0, 0);
            CHECK.due(before + 1, rows.freeze(1), "freeze(1) behind " + before + " and one CYCLES");
        }
    }

    private static void theLastWordCounts() {
        CHECK.sentence(STEP_2, "if it was told ON since the CYCLE before (the last word counts");
        course("+. PF");
        course("-. ");
        course("+-. ");
        course("-+. PF");
        course("+-+. PF");
        course("-+-. ");
        course("+. PF", "-+. CLF");
        course("+. PF", "+-. ", "+. PF");
        course("+. PF", "+. CLF", "-. CLF", "+-. CLF", "+-. L");
    }

    private static void notToldIsAsItWas() {
        CHECK.sentence(STEP_2, "one that was not told is as it was");
        course("+. PF", ". CLF", ". CLF");
        course("-. ", ". ", ". ");
        course("+. PF", "-. ", ". ");
        course("+. PF", ". CLF", "-. CLF", ". CLF", ". L");
        course("+. PF", ". CLF", "-0 CLF", "0 CLF", "0 ");
    }

    private static void pendingThenConfirmed() {
        CHECK.sentence(STEP_2, "if it is PENDING, it is CONFIRMED and PERMANENT, and PENDING no more");
        course("+. PF", "+. CLF", "+. CLF");
        course("+0 PF", "+0 CLF", "+0 CLF");
        course("+. PF", "-. ", "+. PF", "-. ", "+. PF", "+. CLF");
        CHECK.sentence(STEP_2, "otherwise, if it is not CONFIRMED, PENDING");
        course("-. ", "-. ", "-. ", "-. ", "+. PF", "+. CLF");
        course("+. PF", "+. CLF", "-. CLF", "+. CLF", "+. CLF");
    }

    private static void confirmedStaysWhileOn() {
        CHECK.sentence(STEP_2, "otherwise, if it is not CONFIRMED, PENDING");
        EmissionRows rows = Cars.withConfirmed(1);
        for (int c = 0; c < 10; c++) {
            rows.cycle(255, 0);
            CHECK.same("CLF", Cars.stateOf(rows, CODE), "a code ON, " + (c + 1) + " CYCLES behind CONFIRMED");
        }
        row(rows, CODE, 1, 0);
    }

    private static void frozenInTheCycleOfPending() {
        CHECK.sentence(STEP_2, "its FROZEN row is this CYCLE's number and CONDITIONS");
        EmissionRows rows = new EmissionRows();
        rows.cycle(11, 0);
        rows.fault(CODE, true);
        row(rows, 0, 0, 0);
        rows.cycle(22, 0);
        row(rows, CODE, 2, 22);
        rows.cycle(33, 0);
        row(rows, CODE, 2, 22);
        rows.cycle(44, 0);
        row(rows, CODE, 2, 22);
        rows.fault(CODE, false);
        Cars.cycles(rows, 2, 55, 0);
        row(rows, CODE, 2, 22);
        rows.cycle(66, 0);
        row(rows, 0, 0, 0);
        rows.fault(CODE, true);
        rows.cycle(77, 0);
        row(rows, CODE, 8, 77);
    }

    private static void row(EmissionRows rows, int code, int cycle, int conditions) {
        CHECK.due(code, rows.freeze(0), "freeze(0)");
        CHECK.due(cycle, rows.freeze(1), "freeze(1)");
        CHECK.due(conditions, rows.freeze(2), "freeze(2)");
    }

    private static void everyRowOfConditionsFreezes() {
        CHECK.sentence(STEP_2, "its FROZEN row is this CYCLE's number and CONDITIONS");
        for (int conditions = 0; conditions <= 255; conditions++) {
            EmissionRows rows = Cars.withCodes(1, true);
            rows.cycle(conditions, 65535);
            row(rows, CODE, 1, conditions);
        }
    }

    private static void pendingUntilOneCycleOff() {
        CHECK.sentence(STEP_2, "it is PENDING no more (if it was, its FROZEN row is gone)");
        course("-. ", "+. PF", "-. ", "-. ");
        course("-0 ", "+0 PF", "-0 ", "-0 ");
        EmissionRows rows = Cars.withPending(1);
        rows.fault(CODE, false);
        CHECK.same("PF", Cars.stateOf(rows, CODE), "a PENDING code that is told OFF, before the CYCLE");
        rows.cycle(0, 0);
        CHECK.same("", Cars.stateOf(rows, CODE), "a PENDING code that is told OFF, behind the CYCLE");
        row(rows, 0, 0, 0);
    }

    private static void confirmedUntilThreeCyclesOff() {
        CHECK.sentence(STEP_2, "CONFIRMED until it was OFF in 3 CYCLES one behind the other (with this one), then not,"
            + " and its FROZEN row is gone");
        course("+. PF", "+. CLF", "-. CLF", "-. CLF", "-. L", "-. L", "-. L");
        course("+. PF", "+. CLF", "+. CLF", "-. CLF", "-. CLF", "-. L", "+. PLF");
    }

    private static void confirmedCountsOneBehindTheOther() {
        CHECK.sentence(STEP_2, "OFF in 3 CYCLES one behind the other (with this one)");
        course("+. PF", "+. CLF", "-. CLF", "+. CLF", "-. CLF", "-. CLF", "-. L");
        course("+. PF", "+. CLF", "-. CLF", "-. CLF", "+. CLF", "-. CLF", "-. CLF", "+. CLF", "-. CLF", "-. CLF", "-. L");
        course("-. ", "-. ", "+. PF", "+. CLF", "-. CLF", "-. CLF", "-. L");
    }

    private static void permanentUntilThreeWithConditionZero() {
        CHECK.sentence(STEP_2, "PERMANENT until it was OFF in as many as 3 CYCLES");
        course("+. PF", "+. CLF", "-0 CLF", "-0 CLF", "-0 ", "-0 ", "-0 ");
        course("+0 PF", "+0 CLF", "+0 CLF", "-0 CLF", "-0 CLF", "-0 ", "-0 ");
        course("-0 ", "-0 ", "-0 ", "+0 PF", "+0 CLF", "-0 CLF", "-0 CLF", "-0 ");
    }

    private static void permanentCountsNotOnlyOneBehindTheOther() {
        CHECK.sentence(STEP_2, "not only one behind the other, but since it was ON last");
        course("+. PF", "+. CLF", "-0 CLF", "-. CLF", "-0 L", "-. L", "-. L", "-0 ", "-0 ");
        course("+. PF", "+. CLF", "-. CLF", "-. CLF", "-. L", "-0 L", "-0 L", "-0 ", "-. ");
        course("+. PF", "+. CLF", "-0 CLF", "-0 CLF", "-. L", "-. L", "-. L", "-. L", "-0 ");
    }

    private static void permanentNeedsConditionZero() {
        CHECK.sentence(STEP_2, "in which CONDITION 0 held");
        EmissionRows rows = Cars.withConfirmed(1);
        rows.fault(CODE, false);
        Cars.cycles(rows, 9, ALL_BUT_ZERO, 0);
        for (int bit = 1; bit <= 7; bit++) {
            Cars.cycles(rows, 3, 1 << bit, 0);
            CHECK.same("L", Cars.stateOf(rows, CODE), "OFF with CONDITION " + bit + " alone");
        }
        Cars.cycles(rows, 2, 1, 0);
        CHECK.same("L", Cars.stateOf(rows, CODE), "OFF in 2 with CONDITION 0");
        rows.cycle(ALL_BUT_ZERO, 0);
        CHECK.same("L", Cars.stateOf(rows, CODE), "OFF in 2 with CONDITION 0, and one without");
        rows.cycle(255, 0);
        CHECK.same("", Cars.stateOf(rows, CODE), "OFF in 3 with CONDITION 0");
    }

    private static void permanentCountsSinceItWasOnLast() {
        CHECK.sentence(STEP_2, "since it was ON last");
        course("+. PF", "+. CLF", "-0 CLF", "-0 CLF", "+. CLF", "-0 CLF", "-0 CLF", "-0 ");
        course("+. PF", "+. CLF", "-0 CLF", "+0 CLF", "-0 CLF", "-0 CLF", "+0 CLF", "-0 CLF", "-0 CLF", "-0 ");
        course("+. PF", "+. CLF", "-0 CLF", "-0 CLF", "-. L", "+0 PLF", "-0 L", "-0 L", "-0 ");
        course("+. PF", "+. CLF", "-0 CLF", "-0 CLF", "-. L", "+0 PLF", "+0 CLF", "-0 CLF", "-0 CLF", "-0 ");
    }

    private static void permanentAndConfirmedCountApart() {
        CHECK.sentence(STEP_2, "CONFIRMED until it was OFF in 3 CYCLES one behind the other .. PERMANENT until it was OFF"
            + " in as many as 3 CYCLES (not only one behind the other, but since it was ON last)");
        course("+. PF", "+. CLF", "-0 CLF", "-0 CLF", "-0 ");
        course("+. PF", "+. CLF", "-0 CLF", "-0 CLF", "-. L", "-0 ");
        course("+. PF", "+. CLF", "-. CLF", "-0 CLF", "-0 L", "-0 ");
        course("+. PF", "+. CLF", "-. CLF", "-. CLF", "-. L", "-. L");
    }

    private static void whatIsPermanentMayBePendingAgain() {
        CHECK.sentence(STEP_2, "otherwise, if it is not CONFIRMED, PENDING, and its FROZEN row is this CYCLE's");
        course("+. PF", "+. CLF", "-. CLF", "-. CLF", "-. L", "+. PLF", "-. L", "+. PLF", "+. CLF", "+. CLF");
    }

    /** Twenty codes, ON for two CYCLES each, the next one a CYCLE behind the one before. */
    private static void eachCodeCountsForItself() {
        CHECK.sentence(STEP_2, "Each known code, in the order in which they came to be known");
        for (int cycles = 1; cycles <= 25; cycles++) {
            EmissionRows rows = Cars.withCodes(20, false);
            for (int c = 0; c < cycles; c++) {
                tell(rows, c, true);
                tell(rows, c - 2, false);
                rows.cycle(c, 0);
            }
            int begun = Math.min(cycles, 20);
            int confirmed = Math.min(cycles - 1, 20);
            int healed = Math.max(cycles - 4, 0);
            CHECK.answer(rows, 7, 0, Cars.list(71, confirmed, begun));
            CHECK.answer(rows, 3, 0, Cars.list(67, Math.min(healed, 20), confirmed));
            row(rows, healed < 20 ? CODE + healed : 0, healed < 20 ? healed + 1 : 0, healed < 20 ? healed : 0);
        }
    }

    private static void tell(EmissionRows rows, int k, boolean on) {
        if (k >= 0 && k < 20) {
            rows.fault(CODE + k, on);
        }
    }

    /**
     * The course of one code. Each step is what it is told (+ ON, - OFF, in this order, or nothing),
     * whether CONDITION 0 holds in the CYCLE (0) or not (.), and its state behind the CYCLE, as Cars.stateOf says.
     */
    private static void course(String... steps) {
        EmissionRows rows = Cars.withCodes(1, false);
        StringBuilder told = new StringBuilder();
        for (String step : steps) {
            int end = step.indexOf(' ');
            for (char word : step.substring(0, end - 1).toCharArray()) {
                rows.fault(CODE, word == '+');
            }
            rows.cycle(step.charAt(end - 1) == '0' ? 1 : ALL_BUT_ZERO, 0);
            told.append(step, 0, end).append(' ');
            CHECK.same(step.substring(end + 1), Cars.stateOf(rows, CODE), "the state behind " + told);
        }
    }
}
