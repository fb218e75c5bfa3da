/**
 * Terms: "REFUSALS change nothing and answer, the first that fits: -1 an unknown number, -2 outside a range,
 * -4 no room." A car goes one way; a second one goes the same way, and is asked for what must be refused at one
 * place of it. From there on, and in all that they tell at the end, the two must be alike.
 */
public final class RefusalsTest {
    private static final Check CHECK = new Check();
    private static final int CODE = Cars.FIRST_CODE;
    private static final int STEPS = 31;
    private static final int FULL_FROM = 4;

    public static void main(String[] args) {
        refusalsChangeNothing();
        whatIsThrownChangesNothing();
        theAnswerStaysBehindARefusal();
        outsideARangeBeforeNoRoom();
        unknownBeforeWhatIsThrown();
        CHECK.end();
    }

    /** Monitors and codes up to the most, faults that come and heal, the LAMP on and off and on, a clear. */
    private static long step(EmissionRows rows, int step) {
        switch (step) {
            case 0:
                return rows.monitor(2, 0);
            case 1:
                Cars.tellAll(rows, 19, true);
                return rows.fault(CODE + 19, false);
            case 2:
                return makeMonitors(rows, 14);
            case 3:
                return rows.monitor(0, 0);
            case 4:
                return rows.cycle(1, 0x5555);
            case 6:
            case 22:
                return rows.lamp(1999, 3);
            case 8:
                Cars.tellAll(rows, 19, false);
                return rows.answer(10, 0);
            case 15:
                return rows.fault(CODE + 7, true);
            case 19:
                return rows.fault(CODE + 8, true);
            case 25:
                return rows.clear();
            case 26:
                return rows.fault(CODE + 7, false);
            default:
                return rows.cycle(step % 3 == 0 ? 254 : 255, step == 20 ? 0xFFFF : 0x0F0F);
        }
    }

    private static int makeMonitors(EmissionRows rows, int many) {
        int number = 0;
        for (int m = 0; m < many; m++) {
            number = rows.monitor(m % 4, m % 8);
        }
        return number;
    }

    /** Every call that is refused whatever was told before. */
    private static void outsideEveryRange(EmissionRows rows, String place) {
        long[][] answers = {
            {-2, rows.monitor(-1, 0)}, {-2, rows.monitor(4, 0)}, {-2, rows.monitor(0, -1)}, {-2, rows.monitor(0, 8)},
            {-2, rows.cycle(-1, 0)}, {-2, rows.cycle(256, 0)}, {-2, rows.cycle(1, -1)}, {-2, rows.cycle(1, 65536)},
            {-1, rows.count(0, 0)}, {-1, rows.count(17, 1)}, {-1, rows.ratio(0, 0)}, {-1, rows.ratio(17, 1)},
            {-2, rows.ready(-1)}, {-2, rows.ready(4)},
            {-2, rows.fault(0, true)}, {-2, rows.fault(0, false)}, {-2, rows.fault(65536, true)},
            {-2, rows.fault(65536, false)}, {-2, rows.fault(65536 + CODE, true)}, {-2, rows.fault(-CODE, true)},
            {-2, rows.lamp(-1, 5)}, {-2, rows.lamp(5000, -1)}, {-2, rows.lamp(1000000001L, 5)},
            {-2, rows.lamp(5000, 1000000001L)}, {-2, rows.freeze(-1)}, {-2, rows.freeze(4)}};
        for (int i = 0; i < answers.length; i++) {
            CHECK.due(answers[i][0], answers[i][1], "refusal " + i + place);
        }
    }

    private static void withoutRoom(EmissionRows rows, String place) {
        CHECK.due(-4, rows.monitor(0, 0), "monitor(0, 0)" + place);
        CHECK.due(-4, rows.monitor(2, 7), "monitor(2, 7)" + place);
        CHECK.due(-4, rows.fault(CODE + 20, true), "a code more, ON," + place);
        CHECK.due(-4, rows.fault(CODE - 1, false), "a code more, OFF," + place);
    }

    private static void refusalsChangeNothing() {
        CHECK.sentence("Terms,", "REFUSALS change nothing");
        for (int refusedBefore = 0; refusedBefore <= STEPS; refusedBefore++) {
            for (int end = refusedBefore; end <= STEPS; end++) {
                goTheSameWay(refusedBefore, end);
            }
        }
    }

    private static void goTheSameWay(int refusedBefore, int end) {
        String place = " before step " + refusedBefore;
        EmissionRows plain = new EmissionRows();
        EmissionRows refused = new EmissionRows();
        for (int step = 0; step <= end; step++) {
            if (step == refusedBefore) {
                outsideEveryRange(refused, place);
                if (step >= FULL_FROM) {
                    withoutRoom(refused, place);
                }
            }
            if (step < end) {
                CHECK.due(step(plain, step), step(refused, step), "step " + step + " with refusals" + place);
            }
        }
        CHECK.same(Cars.everythingOf(plain), Cars.everythingOf(refused),
            "all that is told at step " + end + " with refusals" + place);
    }

    private static void whatIsThrownChangesNothing() {
        CHECK.sentence("Terms,", "REFUSALS change nothing");
        EmissionRows plain = new EmissionRows();
        EmissionRows thrown = new EmissionRows();
        for (EmissionRows rows : new EmissionRows[] {plain, thrown}) {
            rows.monitor(0, 7);
            rows.fault(CODE, true);
            rows.cycle(1, 1);
            rows.answer(7, 0);
        }
        CHECK.thrown(ArithmeticException.class, () -> thrown.ratio(1, 0), "ratio(1, 0) without a CHANCE");
        CHECK.thrown(ArithmeticException.class, () -> thrown.ratio(1, 1), "ratio(1, 1) without a CHANCE");
        CHECK.thrown(IndexOutOfBoundsException.class, () -> thrown.at(-1), "at(-1)");
        CHECK.thrown(IndexOutOfBoundsException.class, () -> thrown.at(3), "at(3) of 3");
        CHECK.same(Cars.everythingOf(plain), Cars.everythingOf(thrown), "all that is told behind exceptions");
    }

    private static void theAnswerStaysBehindARefusal() {
        CHECK.sentence("Terms,", "REFUSALS change nothing");
        EmissionRows rows = Cars.withPending(20);
        makeMonitors(rows, 16);
        CHECK.answer(rows, 7, 0, Cars.list(71, 20));
        outsideEveryRange(rows, " with an answer");
        withoutRoom(rows, " with an answer");
        CHECK.octets(rows, "answer(7, 0) and refusals", Cars.list(71, 20));
    }

    private static void outsideARangeBeforeNoRoom() {
        CHECK.sentence("Terms,", "answer, the first that fits: -1 an unknown number, -2 outside a range, -4 no room");
        EmissionRows rows = Cars.withCodes(20, true);
        makeMonitors(rows, 16);
        for (int[] pair : new int[][] {{-1, 0}, {4, 0}, {0, -1}, {0, 8}, {-1, 8}, {4, -1}}) {
            CHECK.due(-2, rows.monitor(pair[0], pair[1]), "monitor(" + pair[0] + ", " + pair[1] + ") with 16");
        }
        CHECK.due(-4, rows.monitor(0, 0), "monitor(0, 0) with 16");
        CHECK.due(-4, rows.monitor(3, 7), "monitor(3, 7) with 16");
        CHECK.due(-2, rows.fault(0, true), "fault(0, true) with 20");
        CHECK.due(-4, rows.fault(1, true), "fault(1, true) with 20");
        CHECK.due(-4, rows.fault(65535, false), "fault(65535, false) with 20");
        CHECK.due(-2, rows.fault(65536, false), "fault(65536, false) with 20");
    }

    private static void unknownBeforeWhatIsThrown() {
        CHECK.sentence("Promise 5,", "-1 there is none. ArithmeticException when it had no CHANCE");
        EmissionRows rows = Cars.withMonitors(1, 0, 0);
        CHECK.due(-1, rows.ratio(0, 0), "ratio(0, 0) with one without a CHANCE");
        CHECK.thrown(ArithmeticException.class, () -> rows.ratio(1, 0), "ratio(1, 0) without a CHANCE");
        CHECK.due(-1, rows.ratio(2, 0), "ratio(2, 0) with one without a CHANCE");
    }
}
