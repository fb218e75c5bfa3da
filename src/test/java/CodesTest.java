/** Promises 3 (its second step), 7, 8, 9 and 11: codes from pending to permanent, clear, frozen rows. */
public final class CodesTest {
    private static final Check CHECK = new Check();
    private static final int ZERO_HOLDS = 1;

    public static void main(String[] args) {
        faultNumbersAndRefusals();
        lastWordBeforeTheCycleCounts();
        pendingThenConfirmed();
        pendingGoesWithOneCycleOff();
        confirmedGoesAfterThreeCyclesOff();
        confirmedNeedsThemInARow();
        permanentNeedsConditionZero();
        permanentCountsSinceItWasOnLast();
        permanentOutlivesConfirmed();
        permanentByOrder();
        clearForgetsAllButPermanent();
        clearKeepsWhatPermanentCounts();
        clearOfPendingStartsAnew();
        freezeTellsTheFirstRow();
        freezeRefuses();
        CHECK.end();
    }

    private static EmissionRows confirmed(int code) {
        EmissionRows rows = new EmissionRows();
        rows.fault(code, true);
        rows.cycle(0, 0);
        rows.cycle(0, 0);
        return rows;
    }

    private static void cycles(EmissionRows rows, int... conditions) {
        for (int c : conditions) {
            rows.cycle(c, 0);
        }
    }

    private static void faultNumbersAndRefusals() {
        EmissionRows rows = new EmissionRows();
        for (int none : new int[] {0, -1, 65536, Integer.MIN_VALUE, Integer.MAX_VALUE}) {
            CHECK.due(-2, rows.fault(none, true), "fault(" + none + ", true)");
        }
        CHECK.due(1, rows.fault(65535, false), "fault(65535, false)");
        CHECK.due(1, rows.fault(65535, true), "fault(65535, true), known");
        CHECK.due(2, rows.fault(1, true), "fault(1, true)");
        for (int k = 3; k <= 20; k++) {
            CHECK.due(k, rows.fault(1000 - k, k % 2 == 0), "fault, code " + k);
        }
        CHECK.due(-4, rows.fault(2, true), "fault(2, true) with 20");
        CHECK.due(-4, rows.fault(2, false), "fault(2, false) with 20");
        CHECK.due(-2, rows.fault(0, true), "fault(0, true) with 20");
        CHECK.due(20, rows.fault(1, false), "fault(1, false), known, with 20");
        rows.clear();
        CHECK.due(-4, rows.fault(2, true), "fault(2, true) with 20 after clear()");
        rows.cycle(0, 0);
        CHECK.due(21, rows.answer(7, 0), "answer(7, 0) of ten codes");
        CHECK.due((byte) 255, rows.at(1), "the first code's higher octet");
    }

    private static void lastWordBeforeTheCycleCounts() {
        EmissionRows rows = new EmissionRows();
        rows.fault(258, true);
        rows.fault(258, false);
        CHECK.answer(rows, 7, 0, 71);
        rows.cycle(0, 0);
        CHECK.answer(rows, 7, 0, 71);
        rows.fault(258, false);
        rows.fault(258, true);
        CHECK.answer(rows, 7, 0, 71);
        rows.cycle(0, 0);
        CHECK.answer(rows, 7, 0, 71, 1, 2);
        rows.cycle(0, 0);
        CHECK.answer(rows, 3, 0, 67, 1, 2);
    }

    private static void pendingThenConfirmed() {
        EmissionRows rows = new EmissionRows();
        rows.fault(65535, true);
        rows.fault(256, false);
        rows.cycle(129, 0);
        CHECK.answer(rows, 7, 5, 71, 255, 255);
        CHECK.answer(rows, 3, -1, 67);
        CHECK.answer(rows, 10, Integer.MAX_VALUE, 74);
        CHECK.due(0, rows.permanent(0), "permanent(0) of a pending code");
        rows.cycle(2, 0);
        CHECK.answer(rows, 7, 0, 71);
        CHECK.answer(rows, 3, 0, 67, 255, 255);
        CHECK.answer(rows, 10, 0, 74, 255, 255);
        rows.cycle(4, 0);
        CHECK.answer(rows, 7, 0, 71);
        CHECK.answer(rows, 3, 0, 67, 255, 255);
        CHECK.due(1, rows.freeze(1), "the cycle of the row, still the pending one's");
        CHECK.due(129, rows.freeze(2), "the conditions of the row, still the pending one's");
    }

    private static void pendingGoesWithOneCycleOff() {
        EmissionRows rows = new EmissionRows();
        rows.fault(7, true);
        rows.cycle(3, 0);
        rows.fault(7, false);
        CHECK.due(7, rows.freeze(0), "freeze(0) before the cycle");
        rows.cycle(0, 0);
        CHECK.answer(rows, 7, 0, 71);
        CHECK.due(0, rows.freeze(0), "freeze(0) after one cycle off");
        rows.fault(7, true);
        rows.cycle(9, 0);
        CHECK.answer(rows, 7, 0, 71, 0, 7);
        CHECK.answer(rows, 3, 0, 67);
        CHECK.due(3, rows.freeze(1), "freeze(1) of the new row");
        CHECK.due(9, rows.freeze(2), "freeze(2) of the new row");
    }

    private static void confirmedGoesAfterThreeCyclesOff() {
        EmissionRows rows = confirmed(7);
        rows.fault(7, false);
        cycles(rows, 0, 0);
        CHECK.answer(rows, 3, 0, 67, 0, 7);
        CHECK.due(7, rows.freeze(0), "freeze(0) after two cycles off");
        CHECK.due(1, rows.lamp(0, 0), "the lamp after two cycles off");
        cycles(rows, 0);
        CHECK.answer(rows, 3, 0, 67);
        CHECK.due(0, rows.freeze(0), "freeze(0) after three cycles off");
        CHECK.due(0, rows.lamp(0, 0), "the lamp after three cycles off");
        CHECK.answer(rows, 10, 0, 74, 0, 7);
        rows.fault(7, true);
        cycles(rows, 5);
        CHECK.answer(rows, 7, 0, 71, 0, 7);
        CHECK.due(6, rows.freeze(1), "freeze(1) of the row after healing");
    }

    private static void confirmedNeedsThemInARow() {
        EmissionRows rows = confirmed(7);
        for (int round = 0; round < 3; round++) {
            rows.fault(7, false);
            cycles(rows, 0, 0);
            rows.fault(7, true);
            cycles(rows, 0);
            CHECK.answer(rows, 3, 0, 67, 0, 7);
            CHECK.answer(rows, 7, 0, 71);
        }
        rows.fault(7, false);
        cycles(rows, 0, 0);
        CHECK.answer(rows, 3, 0, 67, 0, 7);
        CHECK.due(1, rows.freeze(1), "freeze(1), the first row");
        cycles(rows, 0);
        CHECK.answer(rows, 3, 0, 67);
    }

    private static void permanentNeedsConditionZero() {
        EmissionRows rows = confirmed(7);
        rows.fault(7, false);
        cycles(rows, 254, 254, 254, 254, 254, 254);
        CHECK.answer(rows, 10, 0, 74, 0, 7);
        cycles(rows, ZERO_HOLDS, 0, 255, 0);
        CHECK.answer(rows, 10, 0, 74, 0, 7);
        CHECK.due(7, rows.permanent(0), "permanent(0) after two cycles with condition 0");
        cycles(rows, ZERO_HOLDS);
        CHECK.answer(rows, 10, 0, 74);
        CHECK.due(0, rows.permanent(0), "permanent(0) after three cycles with condition 0");
    }

    private static void permanentCountsSinceItWasOnLast() {
        EmissionRows rows = confirmed(7);
        rows.fault(7, false);
        cycles(rows, ZERO_HOLDS, ZERO_HOLDS);
        rows.fault(7, true);
        cycles(rows, ZERO_HOLDS);
        rows.fault(7, false);
        cycles(rows, ZERO_HOLDS, ZERO_HOLDS);
        CHECK.due(7, rows.permanent(0), "permanent(0) after two and two");
        rows.fault(7, true);
        rows.fault(7, false);
        cycles(rows, ZERO_HOLDS);
        CHECK.due(0, rows.permanent(0), "permanent(0) after two and three");
        CHECK.answer(rows, 3, 0, 67);
    }

    private static void permanentOutlivesConfirmed() {
        EmissionRows rows = confirmed(7);
        rows.fault(7, false);
        cycles(rows, ZERO_HOLDS, 0, ZERO_HOLDS);
        CHECK.answer(rows, 3, 0, 67);
        CHECK.due(7, rows.permanent(0), "permanent(0) when it is confirmed no more");
        rows.fault(7, true);
        cycles(rows, ZERO_HOLDS);
        CHECK.answer(rows, 7, 0, 71, 0, 7);
        rows.fault(7, false);
        cycles(rows, ZERO_HOLDS, ZERO_HOLDS);
        CHECK.answer(rows, 7, 0, 71);
        CHECK.due(7, rows.permanent(0), "permanent(0), counted anew");
        cycles(rows, ZERO_HOLDS);
        CHECK.due(0, rows.permanent(0), "permanent(0), gone");
    }

    private static void permanentByOrder() {
        EmissionRows rows = new EmissionRows();
        for (int code : new int[] {500, 3, 400, 65535}) {
            rows.fault(code, code != 3);
        }
        cycles(rows, 0);
        rows.fault(3, true);
        cycles(rows, 0);
        permanents(rows, 500, 400, 65535);
        cycles(rows, 0);
        permanents(rows, 500, 3, 400, 65535);
        rows.fault(400, false);
        cycles(rows, ZERO_HOLDS, ZERO_HOLDS, ZERO_HOLDS);
        permanents(rows, 500, 3, 65535);
        CHECK.answer(rows, 10, 0, 74, 1, 244, 0, 3, 255, 255);
    }

    private static void permanents(EmissionRows rows, int... due) {
        for (int i = 0; i < due.length; i++) {
            CHECK.due(due[i], rows.permanent(i), "permanent(" + i + ")");
        }
        for (int i : new int[] {-1, due.length, Integer.MIN_VALUE, Integer.MAX_VALUE}) {
            CHECK.due(0, rows.permanent(i), "permanent(" + i + ") of none");
        }
    }

    private static void clearForgetsAllButPermanent() {
        EmissionRows rows = new EmissionRows();
        rows.monitor(0, 0);
        rows.fault(7, true);
        rows.fault(8, true);
        cycles(rows, 0, 0);
        rows.fault(9, true);
        rows.cycle(1, 1);
        rows.lamp(70000, 60);
        rows.answer(1, 1);
        CHECK.due(2, rows.clear(), "clear()");
        CHECK.octets(rows, "answer(1, 1) before clear()", 65, 1, 130, 0);
        CHECK.due(0, rows.clear(), "clear() again");
        CHECK.answer(rows, 1, 1, 65, 1, 0, 1);
        CHECK.answer(rows, 1, 33, 65, 33, 0, 0);
        CHECK.answer(rows, 3, 0, 67);
        CHECK.answer(rows, 7, 0, 71);
        CHECK.answer(rows, 10, 0, 74, 0, 7, 0, 8);
        CHECK.answer(rows, 2, 0);
        CHECK.answer(rows, 9, 8, 73, 8, 1, 1);
        for (int i = 0; i < 4; i++) {
            CHECK.due(0, rows.freeze(i), "freeze(" + i + ") after clear()");
        }
        CHECK.due(0, rows.lamp(5, 5), "lamp(5, 5) after clear()");
        cycles(rows, 6);
        CHECK.answer(rows, 7, 0, 71, 0, 7, 0, 8, 0, 9);
        CHECK.due(4, rows.freeze(1), "freeze(1), cycles go on counting");
        cycles(rows, 6);
        CHECK.due(3, rows.clear(), "clear() of three");
    }

    private static void clearKeepsWhatPermanentCounts() {
        EmissionRows rows = confirmed(7);
        rows.fault(7, false);
        cycles(rows, ZERO_HOLDS, ZERO_HOLDS);
        rows.clear();
        CHECK.due(7, rows.permanent(0), "permanent(0) after clear()");
        cycles(rows, ZERO_HOLDS);
        CHECK.due(0, rows.permanent(0), "permanent(0), two before clear() and one behind");
        CHECK.answer(rows, 7, 0, 71);
    }

    private static void clearOfPendingStartsAnew() {
        EmissionRows rows = new EmissionRows();
        rows.fault(7, true);
        cycles(rows, 1);
        CHECK.due(0, rows.clear(), "clear() of a pending code");
        CHECK.due(0, rows.freeze(0), "freeze(0) after clear()");
        cycles(rows, 2);
        CHECK.answer(rows, 3, 0, 67);
        CHECK.answer(rows, 7, 0, 71, 0, 7);
        CHECK.due(2, rows.freeze(1), "freeze(1) of the new row");
        cycles(rows, 3);
        CHECK.answer(rows, 3, 0, 67, 0, 7);
        rows.fault(7, false);
        cycles(rows, 0, 0);
        rows.clear();
        rows.fault(7, true);
        cycles(rows, 0, 0);
        rows.fault(7, false);
        cycles(rows, 0, 0);
        CHECK.answer(rows, 3, 0, 67, 0, 7);
        cycles(rows, 0);
        CHECK.answer(rows, 3, 0, 67);
    }

    private static void freezeTellsTheFirstRow() {
        EmissionRows rows = new EmissionRows();
        rows.fault(600, false);
        rows.fault(300, true);
        cycles(rows, 0xA5);
        row(rows, 300, 1, 0xA5);
        rows.fault(600, true);
        cycles(rows, 0x5A);
        row(rows, 600, 2, 0x5A);
        rows.fault(600, false);
        cycles(rows, 1);
        row(rows, 300, 1, 0xA5);
        rows.fault(300, false);
        cycles(rows, 0, 0, 0);
        row(rows, 0, 0, 0);
        rows.fault(300, true);
        cycles(rows, 0);
        row(rows, 300, 7, 0);
        CHECK.answer(rows, 2, 0, 66, 0, 1, 44, 0, 7, 0);
    }

    private static void row(EmissionRows rows, int code, int cycle, int conditions) {
        CHECK.due(code, rows.freeze(0), "freeze(0)");
        CHECK.due(cycle, rows.freeze(1), "freeze(1)");
        CHECK.due(conditions, rows.freeze(2), "freeze(2)");
    }

    private static void freezeRefuses() {
        EmissionRows rows = new EmissionRows();
        for (int i : new int[] {-1, 4, Integer.MIN_VALUE, Integer.MAX_VALUE}) {
            CHECK.due(-2, rows.freeze(i), "freeze(" + i + ")");
        }
        rows.fault(1, true);
        rows.cycle(0, 0);
        CHECK.due(-2, rows.freeze(4), "freeze(4) with a row");
        CHECK.due(-2, rows.freeze(-1), "freeze(-1) with a row");
    }
}
