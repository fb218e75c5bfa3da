/**
 * The boundary cases that the document's "Terms" name for monitors and for step 1 of a CYCLE.
 * Each test names its sentence, and asks at the boundary and on both sides of it.
 */
public final class MonitorEdgesTest {
    private static final Check CHECK = new Check();
    private static final String TERMS = "Terms,";
    private static final String STEP_1 = "Terms, step 1,";
    private static final int ALL = 255;

    public static void main(String[] args) {
        numberedFromOne();
        atMostSixteen();
        kindsFromZeroToThree();
        conditionsFromZeroToSeven();
        countsAtFirstZero();
        atFirstNotReady();
        eightConditions();
        aTestsBitForEachMonitor();
        testsBitsWithoutAMonitor();
        kindZeroIfItHolds();
        kindOneIfTheNextHoldsToo();
        behindSevenStandsZero();
        kindTwoInTheSecondAndTheFourth();
        kindTwoHoweverFarApart();
        kindThreeIfItDoesNotHold();
        runsWithAChanceAlone();
        halvedAtAHundred();
        halvedDownwards();
        notHalvedWithoutAChance();
        halvedEachTime();
        eachKindIsHalved();
        readyWithAChanceOrNot();
        CHECK.end();
    }

    private static void numberedFromOne() {
        CHECK.sentence(TERMS, "MONITORS are numbered from 1 on");
        EmissionRows rows = new EmissionRows();
        CHECK.due(-1, rows.count(1, 0), "count(1, 0) without a monitor");
        for (int m = 1; m <= 3; m++) {
            CHECK.due(m, rows.monitor(0, 0), "monitor, made as number " + m);
            CHECK.due(-1, rows.count(0, 0), "count(0, 0) with " + m);
            CHECK.due(0, rows.count(1, 0), "count(1, 0) with " + m);
            CHECK.due(0, rows.count(m, 0), "count(" + m + ", 0) with " + m);
            CHECK.due(-1, rows.count(m + 1, 0), "count(" + (m + 1) + ", 0) with " + m);
        }
    }

    private static void atMostSixteen() {
        CHECK.sentence(TERMS, "MONITORS are numbered from 1 on, at most 16");
        EmissionRows rows = Cars.withMonitors(14, 0, 0);
        CHECK.due(15, rows.monitor(3, 7), "monitor, the 15th");
        CHECK.due(-1, rows.count(16, 1), "count(16, 1) with 15");
        CHECK.due(16, rows.monitor(3, 7), "monitor, the 16th");
        CHECK.due(0, rows.count(16, 1), "count(16, 1) with 16");
        for (int more = 17; more <= 19; more++) {
            CHECK.due(-4, rows.monitor(3, 7), "monitor, the 17th");
            CHECK.due(-1, rows.count(17, 1), "count(17, 1) with 16");
        }
        CHECK.due(16, rows.cycle(1 << 0, 0) + rows.cycle(1 << 7, 0), "14 and 2 with a CHANCE");
        CHECK.due(-4, rows.monitor(0, 0), "monitor, the 17th, behind a CYCLE");
        rows.clear();
        CHECK.due(-4, rows.monitor(0, 0), "monitor, the 17th, behind clear()");
        CHECK.due(34, rows.answer(9, 8), "answer(9, 8) with 16");
    }

    private static void kindsFromZeroToThree() {
        CHECK.sentence(TERMS, "each with a KIND (0 .. 3)");
        EmissionRows rows = new EmissionRows();
        int made = 0;
        for (int kind = -3; kind <= 6; kind++) {
            boolean isOne = kind >= 0 && kind <= 3;
            made += isOne ? 1 : 0;
            CHECK.due(isOne ? made : -2, rows.monitor(kind, 0), "monitor(" + kind + ", 0)");
            CHECK.due(isOne ? 0 : -2, rows.ready(kind), "ready(" + kind + ")");
        }
        CHECK.due(-1, rows.count(5, 0), "count(5, 0) with a monitor of each KIND");
    }

    private static void conditionsFromZeroToSeven() {
        CHECK.sentence(TERMS, "each with .. a CONDITION (0 .. 7)");
        for (int kind = 0; kind <= 3; kind++) {
            EmissionRows rows = new EmissionRows();
            int made = 0;
            for (int condition = -2; condition <= 9; condition++) {
                boolean isOne = condition >= 0 && condition <= 7;
                made += isOne ? 1 : 0;
                CHECK.due(isOne ? made : -2, rows.monitor(kind, condition), "monitor(" + kind + ", " + condition + ")");
            }
            CHECK.due(-1, rows.count(9, 0), "count(9, 0) with a monitor of each CONDITION");
        }
    }

    private static void countsAtFirstZero() {
        CHECK.sentence(TERMS, "two counts, RUNS and CHANCES, at first 0");
        EmissionRows rows = Cars.withMonitors(1, 0, 0);
        counts(rows, 1, 0, 0);
        rows.cycle(1, 1);
        counts(rows, 1, 1, 1);
        rows.monitor(0, 0);
        counts(rows, 2, 0, 0);
        rows.cycle(1, 0);
        counts(rows, 1, 1, 2);
        counts(rows, 2, 0, 1);
    }

    private static void counts(EmissionRows rows, int monitor, int runs, int chances) {
        CHECK.due(runs, rows.count(monitor, 0), "RUNS of monitor " + monitor);
        CHECK.due(chances, rows.count(monitor, 1), "CHANCES of monitor " + monitor);
    }

    private static void atFirstNotReady() {
        CHECK.sentence(TERMS, "it is READY, or not (at first not)");
        for (int kind = 0; kind <= 3; kind++) {
            EmissionRows rows = new EmissionRows();
            CHECK.due(2, rows.ready(kind), "ready(" + kind + ") without a monitor");
            rows.monitor(kind, 0);
            CHECK.due(0, rows.ready(kind), "ready(" + kind + ") at first");
            rows.cycle(0, 0);
            CHECK.due(0, rows.ready(kind), "ready(" + kind + ") behind a CYCLE without its TEST");
            rows.cycle(0, 1);
            CHECK.due(1, rows.ready(kind), "ready(" + kind + ") behind its TEST");
            rows.monitor(kind, 0);
            CHECK.due(0, rows.ready(kind), "ready(" + kind + ") with one more at first");
        }
    }

    private static void eightConditions() {
        CHECK.sentence(TERMS, "A CYCLE ends with eight CONDITIONS (bits 0 to 7), which hold or not");
        EmissionRows rows = new EmissionRows();
        for (int condition = 0; condition <= 7; condition++) {
            rows.monitor(0, condition);
        }
        for (int condition = 0; condition <= 7; condition++) {
            CHECK.due(1, rows.cycle(1 << condition, 0), "cycle, bit " + condition + " alone");
            CHECK.due(1, rows.count(condition + 1, 1), "CHANCES of the one on CONDITION " + condition);
        }
        CHECK.due(0, rows.cycle(0, 0), "cycle, no bit");
        CHECK.due(8, rows.cycle(ALL, 0), "cycle, every bit");
        CHECK.due(-2, rows.cycle(1 << 8, 0), "cycle, bit 8");
        CHECK.due(7, rows.cycle(ALL - 128, 0), "cycle, every bit but 7");
        CHECK.due(7, rows.cycle(ALL - 1, 0), "cycle, every bit but 0");
    }

    private static void aTestsBitForEachMonitor() {
        CHECK.sentence(TERMS, "TESTS (bit m - 1 for monitor m) that were run");
        EmissionRows rows = Cars.withMonitors(16, 0, 0);
        for (int m = 1; m <= 16; m++) {
            CHECK.due(16, rows.cycle(1, 1 << m - 1), "cycle with the TEST of " + m);
            CHECK.due(1, rows.count(m, 0), "RUNS of " + m + " behind its TEST");
            if (m > 1) {
                CHECK.due(1, rows.count(m - 1, 0), "RUNS of the one before " + m);
            }
            CHECK.due(m < 16 ? 0 : -1, rows.count(m + 1, 0), "RUNS of the one behind " + m);
            CHECK.due(m < 16 ? 0 : 1, rows.ready(0), "ready(0) with " + m + " READY");
        }
        CHECK.due(-2, rows.cycle(1, 1 << 16), "cycle with bit 16 of the TESTS");
    }

    private static void testsBitsWithoutAMonitor() {
        CHECK.sentence("Terms, with no monitor m yet,", "TESTS (bit m - 1 for monitor m) that were run");
        EmissionRows rows = Cars.withMonitors(15, 0, 0);
        CHECK.due(15, rows.cycle(1, 1 << 15), "cycle with the TEST of 16, with 15");
        CHECK.due(16, rows.monitor(1, 0), "monitor, the 16th");
        counts(rows, 15, 0, 1);
        counts(rows, 16, 0, 0);
        CHECK.due(0, rows.ready(1), "ready(1), made behind its TEST");
        rows.cycle(3, 1 << 15);
        counts(rows, 16, 1, 1);
        CHECK.due(1, rows.ready(1), "ready(1), made before its TEST");
        CHECK.due(0, new EmissionRows().cycle(ALL, 65535), "cycle without a monitor");
    }

    /** Whether a monitor on a CONDITION is due a CHANCE, by which of the eight hold. */
    private interface Chance {
        boolean due(boolean[] holds, int condition);
    }

    private static void everyRowOfConditions(int kind, Chance chance) {
        for (int condition = 0; condition <= 7; condition++) {
            EmissionRows rows = Cars.withMonitors(1, kind, condition);
            int chances = 0;
            for (int conditions = 0; conditions <= ALL; conditions++) {
                boolean[] holds = new boolean[8];
                for (int bit = 0; bit < 8; bit++) {
                    holds[bit] = conditions / (1 << bit) % 2 == 1;
                }
                boolean due = chance.due(holds, condition);
                chances = due ? (chances == 100 ? 51 : chances + 1) : chances;
                CHECK.due(due ? 1 : 0, rows.cycle(conditions, 0),
                    "cycle(" + conditions + ", 0) for CONDITION " + condition);
            }
            counts(rows, 1, 0, chances);
        }
    }

    private static void kindZeroIfItHolds() {
        CHECK.sentence(STEP_1, "it has a CHANCE, if its CONDITION holds (KIND 0)");
        everyRowOfConditions(0, (holds, condition) -> holds[condition]);
    }

    private static void kindOneIfTheNextHoldsToo() {
        CHECK.sentence(STEP_1, "if that and the next one hold, behind 7 stands 0 (KIND 1)");
        int[] next = {1, 2, 3, 4, 5, 6, 7, 0};
        everyRowOfConditions(1, (holds, condition) -> holds[condition] && holds[next[condition]]);
    }

    private static void behindSevenStandsZero() {
        CHECK.sentence(STEP_1, "behind 7 stands 0 (KIND 1)");
        chances(1, 6, "6 and 7", 1 << 6 | 1 << 7, 1);
        chances(1, 6, "6 and 0", 1 << 6 | 1 << 0, 0);
        chances(1, 7, "7 and 0", 1 << 7 | 1 << 0, 1);
        chances(1, 7, "7 and 6", 1 << 7 | 1 << 6, 0);
        chances(1, 7, "7 alone", 1 << 7, 0);
        chances(1, 7, "0 alone", 1 << 0, 0);
        chances(1, 7, "7 and 1", 1 << 7 | 1 << 1, 0);
        chances(1, 0, "0 and 1", 1 << 0 | 1 << 1, 1);
        chances(1, 0, "0 and 7", 1 << 0 | 1 << 7, 0);
    }

    private static void chances(int kind, int condition, String holding, int conditions, int due) {
        EmissionRows rows = Cars.withMonitors(1, kind, condition);
        CHECK.due(due, rows.cycle(conditions, 1), "cycle with " + holding + " for CONDITION " + condition);
        counts(rows, 1, due, due);
    }

    private static void kindTwoInTheSecondAndTheFourth() {
        CHECK.sentence(STEP_1, "in each second CYCLE in which it does, the second, the fourth, .. (KIND 2)");
        for (int condition = 0; condition <= 7; condition++) {
            EmissionRows rows = Cars.withMonitors(1, 2, condition);
            for (int held = 1; held <= 9; held++) {
                CHECK.due(held % 2 == 0 ? 1 : 0, rows.cycle(1 << condition, 1), "CYCLE " + held + " in which it holds");
                counts(rows, 1, held / 2, held / 2);
                CHECK.due(0, rows.cycle(ALL - (1 << condition), 1), "a CYCLE in which it does not hold");
                counts(rows, 1, held / 2, held / 2);
            }
        }
    }

    private static void kindTwoHoweverFarApart() {
        CHECK.sentence(STEP_1, "in each second CYCLE in which it does, the second, the fourth, .. (KIND 2)");
        EmissionRows rows = Cars.withMonitors(1, 2, 7);
        for (int held = 1; held <= 4; held++) {
            for (int between = 0; between < 50 + held; between++) {
                CHECK.due(0, rows.cycle(127, 0), "a CYCLE in which it does not hold");
            }
            CHECK.due(held % 2 == 0 ? 1 : 0, rows.cycle(128, 0), "CYCLE " + held + " in which it holds, far apart");
            rows.cycle(256, 0);
            rows.clear();
        }
        counts(rows, 1, 0, 2);
    }

    private static void kindThreeIfItDoesNotHold() {
        CHECK.sentence(STEP_1, "if it does not hold (KIND 3)");
        everyRowOfConditions(3, (holds, condition) -> !holds[condition]);
    }

    private static void runsWithAChanceAlone() {
        CHECK.sentence(STEP_1, "With a CHANCE its CHANCES are one more, and, if its TEST was run, its RUNS are one more");
        EmissionRows rows = Cars.withMonitors(1, 0, 0);
        rows.cycle(0, 0);
        counts(rows, 1, 0, 0);
        rows.cycle(0, 1);
        counts(rows, 1, 0, 0);
        rows.cycle(1, 0);
        counts(rows, 1, 0, 1);
        rows.cycle(1, 1);
        counts(rows, 1, 1, 2);
        rows.cycle(1, 65534);
        counts(rows, 1, 1, 3);
    }

    private static void halvedAtAHundred() {
        CHECK.sentence(STEP_1, "but if CHANCES are 100 before that, both are halved (downwards) first");
        EmissionRows rows = Cars.withMonitors(1, 0, 0);
        Cars.cycles(rows, 98, 1, 1);
        counts(rows, 1, 98, 98);
        rows.cycle(1, 1);
        counts(rows, 1, 99, 99);
        rows.cycle(1, 1);
        counts(rows, 1, 100, 100);
        rows.cycle(1, 1);
        counts(rows, 1, 51, 51);
        rows.cycle(1, 1);
        counts(rows, 1, 52, 52);
    }

    private static void halvedDownwards() {
        CHECK.sentence(STEP_1, "both are halved (downwards) first");
        for (int runs : new int[] {0, 1, 2, 3, 4, 49, 50, 51, 98, 99, 100}) {
            for (int test = 0; test <= 1; test++) {
                EmissionRows rows = Cars.withMonitors(1, 0, 0);
                Cars.cycles(rows, runs, 1, 1);
                Cars.cycles(rows, 100 - runs, 1, 0);
                counts(rows, 1, runs, 100);
                rows.cycle(1, test);
                counts(rows, 1, runs / 2 + test, 51);
            }
        }
    }

    private static void notHalvedWithoutAChance() {
        CHECK.sentence("Terms, step 1, without a CHANCE,", "if CHANCES are 100 before that, both are halved");
        EmissionRows rows = Cars.withMonitors(1, 0, 0);
        Cars.cycles(rows, 100, 1, 1);
        Cars.cycles(rows, 3, 0, 1);
        counts(rows, 1, 100, 100);
        rows.clear();
        counts(rows, 1, 100, 100);
        CHECK.due(-2, rows.cycle(1, 65536), "cycle(1, 65536)");
        counts(rows, 1, 100, 100);
        rows.cycle(1, 0);
        counts(rows, 1, 50, 51);
    }

    private static void halvedEachTime() {
        CHECK.sentence("Terms, step 1, time and again,", "if CHANCES are 100 before that, both are halved");
        EmissionRows rows = Cars.withMonitors(1, 0, 0);
        Cars.cycles(rows, 100, 1, 1);
        int runs = 100;
        for (int time = 1; time <= 4; time++) {
            counts(rows, 1, runs, 100);
            rows.cycle(1, 0);
            runs = runs / 2;
            counts(rows, 1, runs, 51);
            Cars.cycles(rows, 48, 1, 0);
            counts(rows, 1, runs, 99);
            rows.cycle(1, 1);
            runs++;
        }
        counts(rows, 1, 8, 100);
    }

    private static void eachKindIsHalved() {
        CHECK.sentence("Terms, step 1, of each KIND,", "if CHANCES are 100 before that, both are halved");
        EmissionRows rows = new EmissionRows();
        rows.monitor(0, 0);
        rows.monitor(1, 0);
        rows.monitor(2, 0);
        rows.monitor(3, 7);
        Cars.cycles(rows, 99, 3, 15);
        counts(rows, 1, 99, 99);
        counts(rows, 2, 99, 99);
        counts(rows, 3, 49, 49);
        counts(rows, 4, 99, 99);
        rows.cycle(1, 15);
        counts(rows, 1, 100, 100);
        counts(rows, 2, 99, 99);
        counts(rows, 3, 50, 50);
        counts(rows, 4, 100, 100);
        rows.cycle(3, 0);
        counts(rows, 1, 50, 51);
        counts(rows, 2, 99, 100);
        counts(rows, 3, 50, 50);
        counts(rows, 4, 50, 51);
        Cars.cycles(rows, 100, 1, 4);
        counts(rows, 3, 100, 100);
        Cars.cycles(rows, 2, 1, 4);
        counts(rows, 3, 51, 51);
    }

    private static void readyWithAChanceOrNot() {
        CHECK.sentence(STEP_1, "If its TEST was run, it is READY (with a CHANCE or not)");
        for (int kind = 0; kind <= 3; kind++) {
            for (int conditions : new int[] {0, 1, 2, 3, ALL}) {
                EmissionRows rows = Cars.withMonitors(2, kind, 0);
                rows.cycle(conditions, 0);
                CHECK.due(0, rows.ready(kind), "ready(" + kind + ") without a TEST");
                rows.cycle(conditions, 2);
                CHECK.due(0, rows.ready(kind), "ready(" + kind + ") with the second one's TEST");
                rows.cycle(conditions, 1);
                CHECK.due(1, rows.ready(kind), "ready(" + kind + ") with the first one's TEST, too");
                rows.cycle(conditions, 0);
                CHECK.due(1, rows.ready(kind), "ready(" + kind + ") behind a CYCLE without TESTS");
            }
        }
    }
}
