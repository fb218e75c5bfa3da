/** Promises 3 (its third step), 10 and 11: the lamp, its metres and its minutes. */
public final class LampTest {
    private static final Check CHECK = new Check();

    public static void main(String[] args) {
        lampFollowsConfirmedCodes();
        lampRefuses();
        metresAndMinutesAreAdded();
        bothAreAtMostTwoOctets();
        theyStayWhenItGoesOffAndStartWhenItGoesOn();
        theyGoOnWhileSomeCodeIsConfirmed();
        CHECK.end();
    }

    private static EmissionRows withLamp() {
        EmissionRows rows = new EmissionRows();
        rows.fault(7, true);
        rows.cycle(0, 0);
        rows.cycle(0, 0);
        return rows;
    }

    private static void heal(EmissionRows rows, int code) {
        rows.fault(code, false);
        for (int c = 0; c < 3; c++) {
            rows.cycle(0, 0);
        }
    }

    private static void lampFollowsConfirmedCodes() {
        EmissionRows rows = new EmissionRows();
        rows.fault(7, true);
        CHECK.due(0, rows.lamp(1, 1), "lamp of a code that was told");
        rows.cycle(0, 0);
        CHECK.due(0, rows.lamp(1, 1), "lamp of a pending code");
        rows.cycle(0, 0);
        CHECK.due(1, rows.lamp(1, 1), "lamp of a confirmed code");
        CHECK.due(1, rows.freeze(3), "minutes since it went on");
        CHECK.answer(rows, 1, 1, 65, 1, 129, 0);
        heal(rows, 7);
        CHECK.due(0, rows.lamp(1, 1), "lamp of a permanent code");
        CHECK.answer(rows, 1, 1, 65, 1, 0, 0);
    }

    private static void lampRefuses() {
        EmissionRows rows = withLamp();
        long[][] refused = {{-1, 0}, {0, -1}, {1000000001L, 0}, {0, 1000000001L}, {Long.MIN_VALUE, 5},
            {5, Long.MAX_VALUE}, {1L << 32, 0}, {0, 1L << 32}};
        for (long[] pair : refused) {
            CHECK.due(-2, rows.lamp(pair[0], pair[1]), "lamp(" + pair[0] + ", " + pair[1] + ")");
        }
        CHECK.due(0, rows.freeze(3), "minutes after refusals");
        CHECK.answer(rows, 1, 33, 65, 33, 0, 0);
        CHECK.due(1, rows.lamp(0, 0), "lamp(0, 0)");
        CHECK.due(-2, new EmissionRows().lamp(-1, 0), "lamp(-1, 0), off");
        CHECK.due(0, new EmissionRows().lamp(1000000000L, 1000000000L), "lamp at its most, off");
    }

    private static void metresAndMinutesAreAdded() {
        EmissionRows rows = withLamp();
        rows.lamp(999, 1);
        CHECK.answer(rows, 1, 33, 65, 33, 0, 0);
        rows.lamp(1, 299);
        CHECK.answer(rows, 1, 33, 65, 33, 0, 1);
        CHECK.due(300, rows.freeze(3), "minutes");
        rows.lamp(298999, 0);
        CHECK.answer(rows, 1, 33, 65, 33, 1, 43);
        rows.lamp(1, 0);
        CHECK.answer(rows, 1, 33, 65, 33, 1, 44);
        CHECK.due(300, rows.freeze(3), "minutes, none added");
    }

    private static void bothAreAtMostTwoOctets() {
        EmissionRows rows = withLamp();
        rows.lamp(65535999, 65535);
        CHECK.answer(rows, 1, 33, 65, 33, 255, 255);
        CHECK.due(65535, rows.freeze(3), "minutes at their most");
        rows.lamp(1, 1);
        CHECK.answer(rows, 1, 33, 65, 33, 255, 255);
        CHECK.due(65535, rows.freeze(3), "minutes beyond their most");
        for (int i = 0; i < 200; i++) {
            CHECK.due(1, rows.lamp(1000000000L, 1000000000L), "lamp at its most");
            CHECK.due(65535, rows.freeze(3), "minutes far beyond their most");
        }
        CHECK.answer(rows, 1, 33, 65, 33, 255, 255);

        EmissionRows below = withLamp();
        below.lamp(65534999, 65534);
        CHECK.answer(below, 1, 33, 65, 33, 255, 254);
        CHECK.due(65534, below.freeze(3), "minutes just below their most");
    }

    private static void theyStayWhenItGoesOffAndStartWhenItGoesOn() {
        EmissionRows rows = withLamp();
        rows.lamp(5000, 9);
        heal(rows, 7);
        CHECK.due(0, rows.lamp(7000, 7), "lamp, off");
        CHECK.due(9, rows.freeze(3), "minutes when it went off");
        CHECK.answer(rows, 1, 33, 65, 33, 0, 5);
        rows.fault(7, true);
        rows.cycle(0, 0);
        CHECK.due(9, rows.freeze(3), "minutes while it is pending");
        rows.cycle(0, 0);
        CHECK.due(0, rows.freeze(3), "minutes when it goes on");
        CHECK.answer(rows, 1, 33, 65, 33, 0, 0);
    }

    private static void theyGoOnWhileSomeCodeIsConfirmed() {
        EmissionRows rows = withLamp();
        rows.lamp(5000, 9);
        rows.cycle(0, 0);
        CHECK.due(9, rows.freeze(3), "minutes after a cycle");
        rows.fault(7, false);
        rows.cycle(0, 0);
        rows.fault(8, true);
        rows.cycle(0, 0);
        rows.cycle(0, 0);
        CHECK.answer(rows, 3, 0, 67, 0, 8);
        CHECK.due(9, rows.freeze(3), "minutes when one code takes the other's place");
        CHECK.due(1, rows.lamp(1000, 1), "lamp, on all the time");
        CHECK.answer(rows, 1, 33, 65, 33, 0, 6);
    }
}
