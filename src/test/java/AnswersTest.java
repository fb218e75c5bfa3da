/** Promises 12 to 14: answer, at, sum. */
public final class AnswersTest {
    private static final Check CHECK = new Check();

    public static void main(String[] args) {
        readinessBitsByKinds();
        otherModesHaveNone();
        otherIdsHaveNone();
        theOneBeforeIsGone();
        frozenConditionsByIds();
        cycleInTwoOctets();
        codesByModesAndOrder();
        countsOfAllMonitors();
        anAnswerStaysAsItWasTold();
        theLongestAnswer();
        CHECK.end();
    }

    private static void readinessBitsByKinds() {
        for (int kind = 0; kind < 4; kind++) {
            EmissionRows rows = new EmissionRows();
            rows.monitor(kind, 0);
            rows.monitor((kind + 1) % 4, 0);
            CHECK.answer(rows, 1, 1, 65, 1, 0, 1 << kind | 1 << (kind + 1) % 4);
            rows.cycle(0, 2);
            CHECK.answer(rows, 1, 1, 65, 1, 0, 1 << kind);
            rows.cycle(0, 1);
            CHECK.answer(rows, 1, 1, 65, 1, 0, 0);
        }
    }

    private static void otherModesHaveNone() {
        EmissionRows rows = new EmissionRows();
        for (int id : new int[] {0, 1, 8, 33}) {
            CHECK.answer(rows, 2, id);
        }
        rows.fault(7, true);
        rows.cycle(0, 0);
        for (int mode : new int[] {0, -1, 4, 5, 6, 8, 11, 65, 257, Integer.MIN_VALUE, Integer.MAX_VALUE}) {
            for (int id : new int[] {0, 1, 8, 33}) {
                CHECK.answer(rows, mode, id);
            }
        }
    }

    private static void otherIdsHaveNone() {
        EmissionRows rows = new EmissionRows();
        rows.fault(7, true);
        rows.cycle(0, 0);
        for (int id : new int[] {-1, 0, 2, 8, 32, 34, 257, Integer.MIN_VALUE, Integer.MAX_VALUE}) {
            CHECK.answer(rows, 1, id);
        }
        for (int id : new int[] {-1, 8, 33, 256, Integer.MIN_VALUE, Integer.MAX_VALUE}) {
            CHECK.answer(rows, 2, id);
        }
        for (int id : new int[] {-1, 0, 1, 7, 9, 264, Integer.MIN_VALUE, Integer.MAX_VALUE}) {
            CHECK.answer(rows, 9, id);
        }
        for (int id : new int[] {-1, 0, 1, 8, Integer.MIN_VALUE, Integer.MAX_VALUE}) {
            CHECK.answer(rows, 3, id, 67);
            CHECK.answer(rows, 7, id, 71, 0, 7);
            CHECK.answer(rows, 10, id, 74);
        }
    }

    private static void theOneBeforeIsGone() {
        EmissionRows rows = new EmissionRows();
        CHECK.answer(rows, 1, 1, 65, 1, 0, 0);
        CHECK.answer(rows, 9, 8, 73, 8);
        CHECK.answer(rows, 9, 9);
        CHECK.answer(rows, 1, 33, 65, 33, 0, 0);
        CHECK.answer(rows, 2, 0);
        CHECK.answer(rows, 3, 0, 67);
        CHECK.answer(rows, 4, 0);
        CHECK.due(0, rows.sum(), "sum() without an answer");
    }

    private static void frozenConditionsByIds() {
        EmissionRows rows = new EmissionRows();
        rows.fault(0xFE01, true);
        rows.cycle(0xB1, 0);
        int[] due = {1, 0, 0, 0, 1, 1, 0, 1};
        for (int id = 0; id < 8; id++) {
            CHECK.answer(rows, 2, id, 66, id, 0xFE, 1, 0, 1, due[id]);
        }
    }

    private static void cycleInTwoOctets() {
        EmissionRows rows = new EmissionRows();
        for (int c = 1; c < 300; c++) {
            rows.cycle(0, 0);
        }
        rows.fault(3, true);
        rows.cycle(128, 0);
        CHECK.due(300, rows.freeze(1), "freeze(1) in cycle 300");
        CHECK.answer(rows, 2, 7, 66, 7, 0, 3, 1, 44, 1);
    }

    private static void codesByModesAndOrder() {
        EmissionRows rows = new EmissionRows();
        rows.fault(0x0300, true);
        rows.fault(0x0001, false);
        rows.fault(0x00FF, true);
        rows.cycle(0, 0);
        rows.fault(0x0001, true);
        rows.cycle(0, 0);
        CHECK.answer(rows, 3, 0, 67, 3, 0, 0, 255);
        CHECK.answer(rows, 7, 0, 71, 0, 1);
        CHECK.answer(rows, 10, 0, 74, 3, 0, 0, 255);
        CHECK.answer(rows, 1, 1, 65, 1, 130, 0);
        rows.cycle(0, 0);
        CHECK.answer(rows, 3, 0, 67, 3, 0, 0, 1, 0, 255);
        CHECK.answer(rows, 7, 0, 71);
        rows.clear();
        CHECK.answer(rows, 3, 0, 67);
        CHECK.answer(rows, 10, 0, 74, 3, 0, 0, 1, 0, 255);
    }

    private static void countsOfAllMonitors() {
        EmissionRows rows = new EmissionRows();
        int[] due = new int[34];
        due[0] = 73;
        due[1] = 8;
        for (int m = 0; m < 16; m++) {
            rows.monitor(m % 2 == 0 ? 0 : 3, 0);
            due[2 + 2 * m] = m % 2 == 0 ? 2 : 1;
            due[3 + 2 * m] = m % 2 == 0 ? 3 : 2;
        }
        rows.cycle(1, 65535);
        rows.cycle(1, 65535);
        rows.cycle(1, 0);
        rows.cycle(0, 65535);
        rows.cycle(0, 0);
        CHECK.answer(rows, 9, 8, due);
    }

    private static void anAnswerStaysAsItWasTold() {
        EmissionRows rows = new EmissionRows();
        rows.monitor(0, 0);
        rows.fault(7, true);
        rows.cycle(1, 0);
        rows.answer(7, 0);
        rows.cycle(1, 1);
        rows.fault(8, true);
        rows.monitor(1, 1);
        rows.lamp(1, 1);
        rows.freeze(0);
        rows.ready(0);
        rows.count(1, 0);
        rows.ratio(1, 0);
        rows.permanent(0);
        rows.clear();
        CHECK.octets(rows, "answer(7, 0) and other calls", 71, 0, 7);
    }

    private static void theLongestAnswer() {
        EmissionRows rows = new EmissionRows();
        int[] due = new int[41];
        due[0] = 67;
        for (int k = 0; k < 20; k++) {
            rows.fault(65535 - k, true);
            due[1 + 2 * k] = 255;
            due[2 + 2 * k] = 255 - k;
        }
        rows.cycle(0, 0);
        rows.cycle(0, 0);
        CHECK.answer(rows, 3, 0, due);
        due[0] = 74;
        CHECK.answer(rows, 10, 0, due);
        CHECK.answer(rows, 1, 1, 65, 1, 148, 0);
    }
}
