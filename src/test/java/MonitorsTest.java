/** Promises 1 to 6: a new object, monitor, cycle (its first step), count, ratio, ready. */
public final class MonitorsTest {
    private static final Check CHECK = new Check();

    public static void main(String[] args) {
        newObjectIsEmpty();
        objectsShareNothing();
        monitorNumbersAndRefusals();
        monitorRefusesRangeBeforeRoom();
        cycleRefusesAndChangesNothing();
        kindZeroHasAChanceWhenItHolds();
        kindOneNeedsTheNextConditionToo();
        kindTwoHasEachSecondChance();
        kindTwoCountsFromItsMaking();
        kindThreeHasAChanceWhenItDoesNotHold();
        runsNeedAChance();
        countsAreHalvedAtAHundred();
        countAsksForKnownMonitors();
        ratioIsInLowestTerms();
        readyByKinds();
        CHECK.end();
    }

    private static void newObjectIsEmpty() {
        EmissionRows rows = new EmissionRows();
        CHECK.due(0, rows.sum(), "sum() of a new object");
        CHECK.thrown(IndexOutOfBoundsException.class, () -> rows.at(0), "at(0) of a new object");
        CHECK.due(-1, rows.count(1, 0), "count(1, 0) of a new object");
        CHECK.due(-1, rows.ratio(1, 0), "ratio(1, 0) of a new object");
        for (int kind = 0; kind < 4; kind++) {
            CHECK.due(2, rows.ready(kind), "ready of a new object");
        }
        CHECK.due(0, rows.permanent(0), "permanent(0) of a new object");
        for (int i = 0; i < 4; i++) {
            CHECK.due(0, rows.freeze(i), "freeze of a new object");
        }
        CHECK.due(0, rows.lamp(1, 1), "lamp(1, 1) of a new object");
        CHECK.due(0, rows.clear(), "clear() of a new object");
        CHECK.due(0, rows.cycle(255, 65535), "cycle(255, 65535) of a new object");
        CHECK.answer(rows, 1, 1, 65, 1, 0, 0);
        CHECK.answer(rows, 9, 8, 73, 8);
        CHECK.answer(rows, 3, 0, 67);
        CHECK.answer(rows, 7, 0, 71);
        CHECK.answer(rows, 10, 0, 74);
        CHECK.answer(rows, 2, 0);
    }

    private static void objectsShareNothing() {
        EmissionRows used = new EmissionRows();
        used.monitor(0, 0);
        used.fault(5, true);
        used.cycle(1, 1);
        used.cycle(1, 1);
        used.answer(3, 0);
        newObjectIsEmpty();
        CHECK.octets(used, "answer(3, 0) of the used object", 67, 0, 5);
    }

    private static void monitorNumbersAndRefusals() {
        EmissionRows rows = new EmissionRows();
        CHECK.due(-2, rows.monitor(-1, 0), "monitor(-1, 0)");
        CHECK.due(-2, rows.monitor(4, 0), "monitor(4, 0)");
        CHECK.due(-2, rows.monitor(0, -1), "monitor(0, -1)");
        CHECK.due(-2, rows.monitor(0, 8), "monitor(0, 8)");
        CHECK.due(-2, rows.monitor(Integer.MAX_VALUE, Integer.MIN_VALUE), "monitor(max, min)");
        for (int m = 1; m <= 16; m++) {
            CHECK.due(m, rows.monitor(m % 4, m % 8), "monitor, the one numbered " + m);
        }
        CHECK.due(-4, rows.monitor(0, 0), "monitor(0, 0) with 16");
        CHECK.due(-1, rows.count(17, 0), "count(17, 0) with 16");
        CHECK.due(0, rows.count(16, 0), "count(16, 0) with 16");
    }

    private static void monitorRefusesRangeBeforeRoom() {
        EmissionRows rows = new EmissionRows();
        for (int m = 1; m <= 16; m++) {
            rows.monitor(3, 7);
        }
        CHECK.due(-2, rows.monitor(4, 0), "monitor(4, 0) with 16");
        CHECK.due(-2, rows.monitor(0, 8), "monitor(0, 8) with 16");
        CHECK.due(-4, rows.monitor(3, 7), "monitor(3, 7) with 16");
    }

    private static void cycleRefusesAndChangesNothing() {
        EmissionRows rows = new EmissionRows();
        rows.monitor(3, 0);
        rows.fault(9, true);
        int[][] refused = {{-1, 0}, {256, 0}, {0, -1}, {0, 65536}, {Integer.MIN_VALUE, 1}, {1, Integer.MAX_VALUE}};
        for (int[] pair : refused) {
            CHECK.due(-2, rows.cycle(pair[0], pair[1]), "cycle(" + pair[0] + ", " + pair[1] + ")");
        }
        CHECK.due(0, rows.count(1, 1), "count(1, 1) after refusals");
        CHECK.due(0, rows.ready(3), "ready(3) after refusals");
        CHECK.due(0, rows.freeze(0), "freeze(0) after refusals");
        CHECK.due(1, rows.cycle(0, 65535), "cycle(0, 65535)");
        CHECK.due(1, rows.freeze(1), "the first cycle's number after refusals");
        CHECK.due(0, rows.cycle(255, 0), "cycle(255, 0)");
    }

    private static void kindZeroHasAChanceWhenItHolds() {
        for (int condition = 0; condition < 8; condition++) {
            EmissionRows rows = new EmissionRows();
            rows.monitor(0, condition);
            CHECK.due(1, rows.cycle(1 << condition, 0), "kind 0, its condition alone");
            CHECK.due(0, rows.cycle(255 - (1 << condition), 0), "kind 0, all others");
            CHECK.due(1, rows.count(1, 1), "kind 0, chances");
        }
    }

    private static void kindOneNeedsTheNextConditionToo() {
        for (int condition = 0; condition < 8; condition++) {
            int next = condition == 7 ? 0 : condition + 1;
            EmissionRows rows = new EmissionRows();
            rows.monitor(1, condition);
            CHECK.due(0, rows.cycle(1 << condition, 0), "kind 1, its condition alone");
            CHECK.due(0, rows.cycle(1 << next, 0), "kind 1, the next one alone");
            CHECK.due(0, rows.cycle(255 - (1 << next), 0), "kind 1, all but the next one");
            CHECK.due(0, rows.cycle(255 - (1 << condition), 0), "kind 1, all but its own");
            CHECK.due(1, rows.cycle(1 << condition | 1 << next, 0), "kind 1, both");
            CHECK.due(1, rows.count(1, 1), "kind 1, chances");
        }
    }

    private static void kindTwoHasEachSecondChance() {
        EmissionRows rows = new EmissionRows();
        rows.monitor(2, 3);
        int[] conditions = {8, 0, 247, 8, 8, 8, 0, 255, 8};
        int[] due = {0, 0, 0, 1, 0, 1, 0, 0, 1};
        for (int c = 0; c < conditions.length; c++) {
            CHECK.due(due[c], rows.cycle(conditions[c], 0), "kind 2, cycle " + (c + 1));
            if (c == 4) {
                rows.clear();
            }
        }
        CHECK.due(3, rows.count(1, 1), "kind 2, chances");
    }

    private static void kindTwoCountsFromItsMaking() {
        EmissionRows rows = new EmissionRows();
        rows.monitor(2, 0);
        rows.cycle(1, 0);
        rows.monitor(2, 0);
        CHECK.due(1, rows.cycle(1, 0), "kind 2, one cycle after the other's");
        CHECK.due(1, rows.count(1, 1), "kind 2, the older one's chances");
        CHECK.due(0, rows.count(2, 1), "kind 2, the younger one's chances");
        CHECK.due(1, rows.cycle(1, 0), "kind 2, two cycles after the other's");
        CHECK.due(1, rows.count(2, 1), "kind 2, the younger one's chances then");
    }

    private static void kindThreeHasAChanceWhenItDoesNotHold() {
        for (int condition = 0; condition < 8; condition++) {
            EmissionRows rows = new EmissionRows();
            rows.monitor(3, condition);
            CHECK.due(0, rows.cycle(1 << condition, 0), "kind 3, its condition alone");
            CHECK.due(1, rows.cycle(255 - (1 << condition), 0), "kind 3, all others");
            CHECK.due(1, rows.count(1, 1), "kind 3, chances");
        }
    }

    private static void runsNeedAChance() {
        EmissionRows rows = new EmissionRows();
        for (int m = 0; m < 16; m++) {
            rows.monitor(0, m % 8);
        }
        CHECK.due(2, rows.cycle(1 << 7, 1 << 15 | 1), "cycle with the chance of 8 and 16");
        CHECK.due(0, rows.count(1, 0), "runs of a test without a chance");
        CHECK.due(0, rows.count(1, 1), "chances of a test without a chance");
        CHECK.due(0, rows.count(8, 0), "runs of a chance without a test");
        CHECK.due(1, rows.count(8, 1), "chances of a chance without a test");
        CHECK.due(1, rows.count(16, 0), "runs of a chance with a test");
        CHECK.due(1, rows.count(16, 1), "chances of a chance with a test");
    }

    private static void countsAreHalvedAtAHundred() {
        EmissionRows rows = new EmissionRows();
        rows.monitor(0, 0);
        rows.monitor(0, 0);
        rows.monitor(3, 0);
        for (int c = 1; c <= 100; c++) {
            rows.cycle(1, c <= 33 ? 1 : 2);
        }
        CHECK.due(33, rows.count(1, 0), "runs at a hundred");
        CHECK.due(100, rows.count(1, 1), "chances at a hundred");
        rows.cycle(0, 3);
        CHECK.due(100, rows.count(1, 1), "chances after a cycle without a chance");
        rows.cycle(1, 2);
        CHECK.due(16, rows.count(1, 0), "halved runs, no test");
        CHECK.due(51, rows.count(1, 1), "halved chances, no test");
        CHECK.due(34, rows.count(2, 0), "halved runs, a test");
        CHECK.due(51, rows.count(2, 1), "halved chances, a test");
        CHECK.due(1, rows.count(3, 1), "chances of one that is not halved");
        for (int c = 52; c <= 101; c++) {
            rows.cycle(1, 0);
        }
        CHECK.due(8, rows.count(1, 0), "runs halved twice");
        CHECK.due(51, rows.count(1, 1), "chances halved twice");
        rows.answer(9, 8);
        CHECK.octets(rows, "answer(9, 8)", 73, 8, 8, 51, 17, 51, 0, 1);
    }

    private static void countAsksForKnownMonitors() {
        EmissionRows rows = new EmissionRows();
        rows.monitor(0, 0);
        rows.cycle(1, 0);
        for (int none : new int[] {0, -1, 2, Integer.MIN_VALUE, Integer.MAX_VALUE}) {
            CHECK.due(-1, rows.count(none, 0), "count(" + none + ", 0)");
            CHECK.due(-1, rows.count(none, 1), "count(" + none + ", 1)");
            CHECK.due(-1, rows.ratio(none, 0), "ratio(" + none + ", 0)");
            CHECK.due(-1, rows.ratio(none, 1), "ratio(" + none + ", 1)");
        }
        CHECK.due(0, rows.count(1, 0), "count(1, 0)");
        for (int which : new int[] {1, 2, -1, Integer.MIN_VALUE, Integer.MAX_VALUE}) {
            CHECK.due(1, rows.count(1, which), "count(1, " + which + ")");
        }
        rows.clear();
        CHECK.due(1, rows.count(1, 1), "count(1, 1) after clear()");
    }

    private static void ratioIsInLowestTerms() {
        EmissionRows rows = new EmissionRows();
        rows.monitor(0, 0);
        CHECK.thrown(ArithmeticException.class, () -> rows.ratio(1, 0), "ratio(1, 0) without a chance");
        CHECK.thrown(ArithmeticException.class, () -> rows.ratio(1, 1), "ratio(1, 1) without a chance");
        rows.cycle(0, 1);
        CHECK.thrown(ArithmeticException.class, () -> rows.ratio(1, 0), "ratio(1, 0) with a test alone");
        ratio(rows, 0, 0, 1);
        ratio(rows, 0, 0, 1);
        ratio(rows, 1, 1, 3);
        ratio(rows, 1, 1, 2);
        ratio(rows, 1, 3, 5);
        ratio(rows, 1, 2, 3);
        ratio(rows, 0, 4, 7);
        ratio(rows, 0, 1, 2);
        ratio(rows, 0, 4, 9);
        CHECK.due(9, rows.ratio(1, -1), "ratio(1, -1)");
        CHECK.due(9, rows.ratio(1, 2), "ratio(1, 2)");
        CHECK.due(9, rows.ratio(1, Integer.MIN_VALUE), "ratio(1, min)");
        rows.monitor(0, 0);
        rows.cycle(1, 2);
        CHECK.due(1, rows.ratio(2, 0), "ratio(2, 0)");
        CHECK.due(1, rows.ratio(2, 1), "ratio(2, 1)");
        CHECK.due(2, rows.ratio(1, 0), "ratio(1, 0) of 4 / 10");
        CHECK.due(5, rows.ratio(1, 1), "ratio(1, 1) of 4 / 10");
    }

    private static void ratio(EmissionRows rows, int tests, long above, long below) {
        rows.cycle(1, tests);
        CHECK.due(above, rows.ratio(1, 0), "ratio(1, 0) of " + above + " / " + below);
        CHECK.due(below, rows.ratio(1, 1), "ratio(1, 1) of " + above + " / " + below);
    }

    private static void readyByKinds() {
        EmissionRows rows = new EmissionRows();
        for (int none : new int[] {-1, 4, Integer.MIN_VALUE, Integer.MAX_VALUE}) {
            CHECK.due(-2, rows.ready(none), "ready(" + none + ")");
        }
        rows.monitor(0, 0);
        rows.monitor(2, 1);
        rows.monitor(2, 1);
        CHECK.due(0, rows.ready(0), "ready(0) at first");
        CHECK.due(2, rows.ready(1), "ready(1) without monitors");
        rows.cycle(0, 2);
        CHECK.due(0, rows.ready(0), "ready(0), another was tested");
        CHECK.due(0, rows.ready(2), "ready(2), one of two was tested");
        rows.cycle(0, 4);
        CHECK.due(1, rows.ready(2), "ready(2), both were tested, without a chance");
        CHECK.answer(rows, 1, 1, 65, 1, 0, 1);
        rows.cycle(255, 0);
        CHECK.due(1, rows.ready(2), "ready(2) stays");
        rows.monitor(2, 5);
        CHECK.due(0, rows.ready(2), "ready(2) with a new monitor");
        rows.cycle(0, 65535);
        CHECK.due(1, rows.ready(0), "ready(0), all tested");
        CHECK.due(1, rows.ready(2), "ready(2), all tested");
        CHECK.due(2, rows.ready(3), "ready(3) without monitors, all tested");
        rows.monitor(3, 0);
        CHECK.due(0, rows.ready(3), "ready(3), made after its bit was told");
        rows.clear();
        CHECK.due(0, rows.ready(0), "ready(0) after clear()");
        CHECK.answer(rows, 1, 1, 65, 1, 0, 1 + 4 + 8);
    }
}
