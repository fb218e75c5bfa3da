/**
 * The boundary cases that the document names for AN ANSWER: its part of "Terms", and promises 12 to 14.
 * Each test names its sentence, and asks at the boundary and on both sides of it.
 */
public final class AnswerEdgesTest {
    private static final Check CHECK = new Check();
    private static final String AN_ANSWER = "Terms, AN ANSWER,";
    private static final String PROMISE_12 = "Promise 12,";
    private static final String PROMISE_13 = "Promise 13,";
    private static final String PROMISE_14 = "Promise 14,";
    private static final int CODE = Cars.FIRST_CODE;
    private static final int[] OTHER_IDS = {Integer.MIN_VALUE, -2, -1, 9, 31, 34, 256, 257, 264, 289, Integer.MAX_VALUE};

    public static void main(String[] args) {
        codesOfTwoOctets();
        cyclesOfTwoOctets();
        kilometresOfTwoOctets();
        confirmedFromNoneToTheMost();
        aBitForEachKind();
        aBitUntilTheLastIsReady();
        metresByAThousand();
        metresAtMostTwoOctets();
        idsOfModeTwo();
        theConditionOfEachId();
        theFirstFrozenRow();
        frozenRowsFromNoneToTheMost();
        codesFromNoneToTheMost();
        idsThatDoNotMatter();
        countsFromNoneToTheMost();
        countsOfOneOctetEach();
        otherModes();
        otherIdsOfModeOne();
        otherIdsOfModeNine();
        modeTwoWithoutAFrozenRow();
        theOneBeforeIsGone();
        octetsBeforeAndBehind();
        octetsOfAShorterAnswer();
        noOctetsWithoutAnAnswer();
        octetsAsBytes();
        sumOfTheLeastAndTheMost();
        sumWithoutAnAnswer();
        CHECK.end();
    }

    private static void codesOfTwoOctets() {
        CHECK.sentence(AN_ANSWER, "numbers of two octets with the higher one first");
        for (int code : new int[] {1, 2, 127, 128, 129, 254, 255, 256, 257, 32767, 32768, 32769, 65279, 65280, 65534, 65535}) {
            int high = code / 256;
            int low = code % 256;
            EmissionRows rows = new EmissionRows();
            rows.fault(code, true);
            rows.cycle(0, 0);
            CHECK.answer(rows, 7, 0, 71, high, low);
            CHECK.answer(rows, 2, 0, 66, 0, high, low, 0, 1, 0);
            rows.cycle(0, 0);
            CHECK.answer(rows, 3, 0, 67, high, low);
            CHECK.answer(rows, 10, 0, 74, high, low);
        }
    }

    private static void cyclesOfTwoOctets() {
        CHECK.sentence(AN_ANSWER, "numbers of two octets with the higher one first");
        for (int cycle : new int[] {1, 2, 127, 128, 254, 255, 256, 257, 400}) {
            EmissionRows rows = new EmissionRows();
            Cars.cycles(rows, cycle - 1, 0, 0);
            rows.fault(3, true);
            rows.cycle(0, 0);
            CHECK.answer(rows, 2, 0, 66, 0, 0, 3, cycle / 256, cycle % 256, 0);
        }
    }

    private static void kilometresOfTwoOctets() {
        CHECK.sentence(AN_ANSWER, "numbers of two octets with the higher one first");
        for (int kilometres : new int[] {0, 1, 127, 128, 254, 255, 256, 257, 32767, 32768, 65279, 65280}) {
            EmissionRows rows = Cars.withConfirmed(1);
            rows.lamp(kilometres * 1000L, 0);
            CHECK.answer(rows, 1, 33, 65, 33, kilometres / 256, kilometres % 256);
        }
    }

    private static void confirmedFromNoneToTheMost() {
        CHECK.sentence(AN_ANSWER, "how many are CONFIRMED, and 128 more if the LAMP is on");
        for (int many : new int[] {0, 1, 2, 19, 20}) {
            EmissionRows rows = Cars.withPending(many);
            CHECK.answer(rows, 1, 1, 65, 1, 0, 0);
            rows.cycle(0, 0);
            CHECK.answer(rows, 1, 1, 65, 1, many == 0 ? 0 : 128 + many, 0);
            rows.fault(CODE, false);
            Cars.cycles(rows, 3, 0, 0);
            CHECK.answer(rows, 1, 1, 65, 1, many <= 1 ? 0 : 128 + many - 1, 0);
            rows.clear();
            CHECK.answer(rows, 1, 1, 65, 1, 0, 0);
        }
    }

    private static void aBitForEachKind() {
        CHECK.sentence(AN_ANSWER, "for KINDS 0 to 3 a bit each (0 to 3) that is 1 if there is a monitor of it that is not READY");
        for (int kinds = 0; kinds <= 15; kinds++) {
            EmissionRows rows = new EmissionRows();
            for (int kind = 0; kind <= 3; kind++) {
                if ((kinds >> kind & 1) == 1) {
                    rows.monitor(kind, 7);
                }
            }
            CHECK.answer(rows, 1, 1, 65, 1, 0, kinds);
            rows.cycle(0, 1);
            CHECK.answer(rows, 1, 1, 65, 1, 0, kinds & kinds - 1);
            rows.cycle(0, 65535);
            CHECK.answer(rows, 1, 1, 65, 1, 0, 0);
            rows.clear();
            CHECK.answer(rows, 1, 1, 65, 1, 0, kinds);
        }
    }

    private static void aBitUntilTheLastIsReady() {
        CHECK.sentence(AN_ANSWER, "that is 1 if there is a monitor of it that is not READY");
        for (int kind = 0; kind <= 3; kind++) {
            EmissionRows rows = Cars.withMonitors(16, kind, 0);
            for (int m = 1; m <= 16; m++) {
                CHECK.answer(rows, 1, 1, 65, 1, 0, 1 << kind);
                rows.cycle(0, 1 << 16 - m);
            }
            CHECK.answer(rows, 1, 1, 65, 1, 0, 0);
        }
    }

    private static void metresByAThousand() {
        CHECK.sentence(AN_ANSWER, "65 33, the LAMP's METRES by 1000");
        CHECK.answer(new EmissionRows(), 1, 33, 65, 33, 0, 0);
        for (int metres : new int[] {0, 1, 499, 500, 998, 999, 1000, 1001, 1999, 2000, 2001}) {
            EmissionRows rows = Cars.withConfirmed(1);
            rows.lamp(metres, 0);
            CHECK.answer(rows, 1, 33, 65, 33, 0, metres < 1000 ? 0 : metres < 2000 ? 1 : 2);
        }
    }

    private static void metresAtMostTwoOctets() {
        CHECK.sentence(AN_ANSWER, "the LAMP's METRES by 1000 (65535 at most)");
        int[][] due = {{65533999, 253}, {65534000, 254}, {65534999, 254}, {65535000, 255}, {65535001, 255}, {65535999, 255},
            {65536000, 255}, {65536001, 255}, {65537000, 255}, {131071000, 255}, {131072000, 255}, {1000000000, 255}};
        for (int[] pair : due) {
            EmissionRows rows = Cars.withConfirmed(1);
            rows.lamp(pair[0], 0);
            CHECK.answer(rows, 1, 33, 65, 33, 255, pair[1]);
        }
    }

    private static void idsOfModeTwo() {
        CHECK.sentence(AN_ANSWER, "MODE 2, id 0 .. 7");
        EmissionRows rows = Cars.withPending(1);
        for (int id = -3; id <= 10; id++) {
            if (id >= 0 && id <= 7) {
                CHECK.answer(rows, 2, id, 66, id, CODE >> 8, CODE & 255, 0, 1, 0);
            } else {
                CHECK.answer(rows, 2, id);
            }
        }
        for (int id : OTHER_IDS) {
            CHECK.answer(rows, 2, id);
        }
    }

    private static void theConditionOfEachId() {
        CHECK.sentence(AN_ANSWER, "1 or 0 for that CONDITION");
        for (int bit = 0; bit <= 7; bit++) {
            EmissionRows alone = Cars.withCodes(1, true);
            alone.cycle(1 << bit, 0);
            EmissionRows others = Cars.withCodes(1, true);
            others.cycle(255 - (1 << bit), 0);
            for (int id = 0; id <= 7; id++) {
                CHECK.answer(alone, 2, id, 66, id, CODE >> 8, CODE & 255, 0, 1, id == bit ? 1 : 0);
                CHECK.answer(others, 2, id, 66, id, CODE >> 8, CODE & 255, 0, 1, id == bit ? 0 : 1);
            }
        }
    }

    private static void theFirstFrozenRow() {
        CHECK.sentence(AN_ANSWER, "the first FROZEN row (in the order in which codes came to be known, as always here)");
        EmissionRows rows = new EmissionRows();
        rows.fault(900, false);
        rows.fault(100, false);
        rows.fault(500, true);
        CHECK.answer(rows, 2, 1);
        rows.cycle(2, 0);
        CHECK.answer(rows, 2, 1, 66, 1, 1, 244, 0, 1, 1);
        rows.fault(100, true);
        rows.cycle(0, 0);
        CHECK.answer(rows, 2, 1, 66, 1, 0, 100, 0, 2, 0);
        rows.fault(900, true);
        rows.cycle(2, 0);
        CHECK.answer(rows, 2, 1, 66, 1, 3, 132, 0, 3, 1);
        rows.fault(900, false);
        rows.cycle(2, 0);
        CHECK.answer(rows, 2, 1, 66, 1, 0, 100, 0, 2, 0);
        rows.fault(100, false);
        Cars.cycles(rows, 3, 0, 0);
        CHECK.answer(rows, 2, 1, 66, 1, 1, 244, 0, 1, 1);
        rows.clear();
        CHECK.answer(rows, 2, 1);
    }

    private static void frozenRowsFromNoneToTheMost() {
        CHECK.sentence(AN_ANSWER, "the first FROZEN row (in the order in which codes came to be known");
        for (int first = 0; first <= 20; first++) {
            EmissionRows rows = Cars.withCodes(20, true);
            Cars.tellAll(rows, first, false);
            rows.cycle(8, 0);
            if (first == 20) {
                CHECK.answer(rows, 2, 3);
            } else {
                CHECK.answer(rows, 2, 3, 66, 3, CODE + first >> 8, CODE + first & 255, 0, 1, 1);
            }
        }
    }

    private static void codesFromNoneToTheMost() {
        CHECK.sentence(AN_ANSWER, "MODE 3: 67, the CONFIRMED codes; MODE 7: 71, PENDING ones; MODE 10: 74, PERMANENT ones");
        for (int many : new int[] {0, 1, 2, 19, 20}) {
            EmissionRows rows = Cars.withCodes(many, true);
            codes(rows, 0, 0, 0);
            rows.cycle(0, 0);
            codes(rows, 0, many, 0);
            rows.cycle(0, 0);
            codes(rows, many, 0, many);
            rows.clear();
            codes(rows, 0, 0, many);
        }
    }

    private static void codes(EmissionRows rows, int confirmed, int pending, int permanent) {
        CHECK.answer(rows, 3, 0, Cars.list(67, confirmed));
        CHECK.answer(rows, 7, 0, Cars.list(71, pending));
        CHECK.answer(rows, 10, 0, Cars.list(74, permanent));
    }

    private static void idsThatDoNotMatter() {
        CHECK.sentence(AN_ANSWER, "their id does not matter");
        EmissionRows rows = Cars.withConfirmed(1);
        rows.fault(CODE + 1, true);
        rows.cycle(0, 0);
        for (int id : new int[] {Integer.MIN_VALUE, -1, 0, 1, 2, 7, 8, 9, 33, 65535, Integer.MAX_VALUE}) {
            CHECK.answer(rows, 3, id, Cars.list(67, 0, 1));
            CHECK.answer(rows, 7, id, Cars.list(71, 1, 2));
            CHECK.answer(rows, 10, id, Cars.list(74, 0, 1));
        }
    }

    private static void countsFromNoneToTheMost() {
        CHECK.sentence(AN_ANSWER, "MODE 9, id 8: 73 8, for each monitor, RUNS and CHANCES, one octet each");
        for (int many : new int[] {0, 1, 2, 15, 16}) {
            EmissionRows rows = Cars.withMonitors(many, 0, 0);
            int[] due = new int[2 + 2 * many];
            due[0] = 73;
            due[1] = 8;
            CHECK.answer(rows, 9, 8, due);
            for (int m = 1; m <= many; m++) {
                rows.cycle(1, 65536 - (1 << m - 1));
            }
            for (int m = 1; m <= many; m++) {
                due[2 * m] = m;
                due[2 * m + 1] = many;
            }
            CHECK.answer(rows, 9, 8, due);
        }
    }

    private static void countsOfOneOctetEach() {
        CHECK.sentence(AN_ANSWER, "RUNS and CHANCES, one octet each");
        EmissionRows rows = Cars.withMonitors(1, 0, 0);
        Cars.cycles(rows, 99, 1, 1);
        CHECK.answer(rows, 9, 8, 73, 8, 99, 99);
        rows.cycle(1, 0);
        CHECK.answer(rows, 9, 8, 73, 8, 99, 100);
        rows.cycle(1, 1);
        CHECK.answer(rows, 9, 8, 73, 8, 50, 51);
    }

    private static void otherModes() {
        CHECK.sentence(PROMISE_12, "0 if there is none: another MODE");
        for (int id : new int[] {0, 1, 8, 33}) {
            EmissionRows rows = Cars.withPending(1);
            for (int mode = -12; mode <= 14; mode++) {
                boolean isOne = mode == 1 || mode == 2 || mode == 3 || mode == 7 || mode == 9 || mode == 10;
                if (!isOne) {
                    CHECK.answer(rows, mode, id);
                }
            }
            for (int mode : new int[] {Integer.MIN_VALUE, 65, 66, 67, 71, 73, 74, 257, 258, 259, 265, Integer.MAX_VALUE}) {
                CHECK.answer(rows, mode, id);
            }
        }
    }

    private static void otherIdsOfModeOne() {
        CHECK.sentence(PROMISE_12, "or another id of MODES 1, 2, 9");
        EmissionRows rows = Cars.withPending(1);
        CHECK.answer(rows, 1, 0);
        CHECK.answer(rows, 1, 1, 65, 1, 0, 0);
        for (int id = 2; id <= 32; id++) {
            CHECK.answer(rows, 1, id);
        }
        CHECK.answer(rows, 1, 33, 65, 33, 0, 0);
        for (int id : OTHER_IDS) {
            CHECK.answer(rows, 1, id);
        }
    }

    private static void otherIdsOfModeNine() {
        CHECK.sentence(PROMISE_12, "or another id of MODES 1, 2, 9");
        EmissionRows rows = Cars.withMonitors(1, 0, 0);
        for (int id = 0; id <= 7; id++) {
            CHECK.answer(rows, 9, id);
        }
        CHECK.answer(rows, 9, 8, 73, 8, 0, 0);
        for (int id : OTHER_IDS) {
            CHECK.answer(rows, 9, id);
        }
    }

    private static void modeTwoWithoutAFrozenRow() {
        CHECK.sentence(PROMISE_12, "or of MODE 2 without a FROZEN row");
        EmissionRows rows = Cars.withCodes(1, true);
        CHECK.answer(rows, 2, 0);
        CHECK.answer(rows, 2, 7);
        rows.cycle(0, 0);
        CHECK.due(7, rows.answer(2, 0), "answer(2, 0) of a PENDING code");
        rows.cycle(0, 0);
        CHECK.due(7, rows.answer(2, 0), "answer(2, 0) of a CONFIRMED code");
        rows.fault(CODE, false);
        Cars.cycles(rows, 2, 0, 0);
        CHECK.due(7, rows.answer(2, 0), "answer(2, 0) of a code OFF in 2 CYCLES");
        rows.cycle(0, 0);
        CHECK.answer(rows, 2, 0);
        CHECK.answer(rows, 2, 7);
    }

    private static void theOneBeforeIsGone() {
        CHECK.sentence(PROMISE_12, "then the one before is gone, too");
        for (int[] none : new int[][] {{0, 0}, {1, 0}, {1, 32}, {2, 0}, {2, 8}, {4, 1}, {9, 7}, {9, 9}, {11, 8}}) {
            EmissionRows rows = Cars.withMonitors(16, 0, 0);
            CHECK.due(34, rows.answer(9, 8), "answer(9, 8)");
            CHECK.answer(rows, none[0], none[1]);
            CHECK.answer(rows, none[0], none[1]);
            CHECK.answer(rows, 3, 0, 67);
        }
    }

    private static void octetsBeforeAndBehind() {
        CHECK.sentence(PROMISE_13, "IndexOutOfBoundsException before and behind it");
        for (int many : new int[] {0, 1, 2, 19, 20}) {
            EmissionRows rows = Cars.withPending(many);
            int length = rows.answer(7, 0);
            CHECK.due(1 + 2 * many, length, "answer(7, 0) of " + many);
            for (int i : new int[] {Integer.MIN_VALUE, -2, -1, length, length + 1, 41, 42, Integer.MAX_VALUE}) {
                CHECK.thrown(IndexOutOfBoundsException.class, () -> rows.at(i), "at(" + i + ") of " + length);
            }
            CHECK.due(71, rows.at(0), "at(0) of " + length);
            int last = many == 0 ? 71 : CODE + many - 1 & 255;
            CHECK.due((byte) last, rows.at(length - 1), "at(" + (length - 1) + ") of " + length);
        }
    }

    /** What a longer one left behind a shorter answer is not its own. */
    private static void octetsOfAShorterAnswer() {
        CHECK.sentence(PROMISE_13, "IndexOutOfBoundsException before and behind it");
        EmissionRows rows = Cars.withPending(20);
        CHECK.due(41, rows.answer(7, 0), "answer(7, 0) of 20");
        CHECK.due(7, rows.answer(2, 0), "answer(2, 0)");
        CHECK.due(0, rows.at(6), "at(6) of 7");
        CHECK.thrown(IndexOutOfBoundsException.class, () -> rows.at(7), "at(7) of 7");
        CHECK.due(4, rows.answer(1, 1), "answer(1, 1)");
        CHECK.due(0, rows.at(3), "at(3) of 4");
        CHECK.thrown(IndexOutOfBoundsException.class, () -> rows.at(4), "at(4) of 4");
        CHECK.due(1, rows.answer(3, 0), "answer(3, 0) of none");
        CHECK.due(67, rows.at(0), "at(0) of 1");
        CHECK.thrown(IndexOutOfBoundsException.class, () -> rows.at(1), "at(1) of 1");
        CHECK.due(67, rows.sum(), "sum() of 1");
    }

    private static void noOctetsWithoutAnAnswer() {
        CHECK.sentence(PROMISE_13, "IndexOutOfBoundsException before and behind it");
        EmissionRows rows = new EmissionRows();
        for (int i = -1; i <= 1; i++) {
            int octet = i;
            CHECK.thrown(IndexOutOfBoundsException.class, () -> rows.at(octet), "at(" + i + ") of a new object");
        }
        rows.answer(1, 1);
        rows.answer(1, 2);
        for (int i = -1; i <= 1; i++) {
            int octet = i;
            CHECK.thrown(IndexOutOfBoundsException.class, () -> rows.at(octet), "at(" + i + ") without an answer");
        }
    }

    private static void octetsAsBytes() {
        CHECK.sentence(PROMISE_13, "Octet i of AN ANSWER");
        int[] codes = {0x7F, 0x80, 0x81, 0xFF, 0x7F00, 0x8000, 0x8100, 0xFF00};
        int[] due = {0, 127, 0, -128, 0, -127, 0, -1, 127, 0, -128, 0, -127, 0, -1, 0};
        EmissionRows rows = new EmissionRows();
        for (int code : codes) {
            rows.fault(code, true);
        }
        rows.cycle(0, 0);
        rows.answer(7, 0);
        for (int i = 0; i < due.length; i++) {
            CHECK.due(due[i], rows.at(1 + i), "at(" + (1 + i) + ")");
        }
    }

    private static void sumOfTheLeastAndTheMost() {
        CHECK.sentence(PROMISE_14, "The sum of all octets of AN ANSWER (0 .. 255 each)");
        EmissionRows rows = new EmissionRows();
        rows.answer(3, 0);
        CHECK.due(67, rows.sum(), "sum() of one octet");
        int due = 71;
        for (int k = 0; k < 20; k++) {
            rows.fault(65535 - k, true);
            due += 255 + 255 - k;
        }
        rows.cycle(0, 0);
        CHECK.due(67, rows.sum(), "sum() of the answer that stands");
        rows.answer(7, 0);
        CHECK.due(due, rows.sum(), "sum() of the most and the highest codes");
        EmissionRows edges = new EmissionRows();
        for (int code : new int[] {0x007F, 0x0080, 0x00FF, 0x0100}) {
            edges.fault(code, true);
        }
        edges.cycle(0, 0);
        edges.answer(7, 0);
        CHECK.due(71 + 127 + 128 + 255 + 1, edges.sum(), "sum() of octets round 128");
    }

    private static void sumWithoutAnAnswer() {
        CHECK.sentence(PROMISE_14, "0 without one");
        EmissionRows rows = Cars.withMonitors(16, 0, 0);
        CHECK.due(0, rows.sum(), "sum() of an object that was not asked");
        rows.answer(9, 8);
        CHECK.due(81, rows.sum(), "sum() behind answer(9, 8)");
        rows.answer(9, 9);
        CHECK.due(0, rows.sum(), "sum() behind answer(9, 9)");
        rows.answer(9, 8);
        rows.answer(2, 0);
        CHECK.due(0, rows.sum(), "sum() behind answer(2, 0) without a FROZEN row");
    }
}
