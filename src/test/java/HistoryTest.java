import java.util.Random;

/** Long runs of mixed calls (the same ones every time), each answer compared with HistoryModel's. */
public final class HistoryTest {
    private static final int RUNS = 500;
    /** An object is promised 512 calls, and looking at an answer takes one for each octet and five more. */
    private static final int CALLS = 512;
    private static final int LONGEST_LOOK = 1 + 41 + 5;
    private static final Check CHECK = new Check();

    private final Random random;
    private final EmissionRows rows = new EmissionRows();
    private final HistoryModel model = new HistoryModel();
    private final int codes;
    private final int cyclesInHundred;
    private final int clearsInThousand;
    private int calls = 0;

    private HistoryTest(int seed) {
        random = new Random(seed);
        codes = 1 + random.nextInt(24);
        cyclesInHundred = 10 + random.nextInt(60);
        clearsInThousand = random.nextInt(30);
    }

    public static void main(String[] args) {
        for (int seed = 0; seed < RUNS; seed++) {
            HistoryTest run = new HistoryTest(seed);
            while (run.calls + LONGEST_LOOK <= CALLS) {
                run.calls++;
                run.someCall("run " + seed + ", call " + run.calls + ": ");
            }
        }
        CHECK.end();
    }

    private void someCall(String place) {
        if (random.nextInt(1000) < clearsInThousand) {
            CHECK.due(model.clear(), rows.clear(), place + "clear()");
        } else if (random.nextInt(100) < cyclesInHundred) {
            cycle(place);
        } else {
            change(place);
        }
    }

    private void cycle(String place) {
        int conditions = random.nextInt(20) == 0 ? odd() : random.nextInt(256) | random.nextInt(2);
        int tests = random.nextInt(20) == 0 ? odd() : random.nextInt(65536);
        CHECK.due(model.cycle(conditions, tests), rows.cycle(conditions, tests),
            place + "cycle(" + conditions + ", " + tests + ")");
    }

    private void change(String place) {
        int a = random.nextInt(12) == 0 ? odd() : random.nextInt(5);
        int b = random.nextInt(12) == 0 ? odd() : random.nextInt(9);
        switch (random.nextInt(6)) {
            case 0 -> {
                if (random.nextInt(6) == 0) {
                    CHECK.due(model.monitor(a, b), rows.monitor(a, b), place + "monitor(" + a + ", " + b + ")");
                }
            }
            case 1, 2 -> {
                int code = random.nextInt(15) == 0 ? odd() : 1 + random.nextInt(codes) * 2711;
                boolean on = random.nextInt(3) == 0;
                CHECK.due(model.fault(code, on), rows.fault(code, on), place + "fault(" + code + ", " + on + ")");
            }
            case 3 -> {
                long metres = random.nextInt(9) == 0 ? odd() : random.nextInt(900000);
                long minutes = random.nextInt(9) == 0 ? odd() : random.nextInt(900);
                CHECK.due(model.lamp(metres, minutes), rows.lamp(metres, minutes),
                    place + "lamp(" + metres + ", " + minutes + ")");
            }
            default -> ask(place, b);
        }
    }

    private void ask(String place, int i) {
        int monitor = random.nextInt(18);
        switch (random.nextInt(6)) {
            case 0 -> CHECK.due(model.count(monitor, i), rows.count(monitor, i),
                place + "count(" + monitor + ", " + i + ")");
            case 1 -> CHECK.due(model.ratio(monitor, i % 2), ratio(monitor, i % 2),
                place + "ratio(" + monitor + ", " + i % 2 + ")");
            case 2 -> CHECK.due(model.ready(i), rows.ready(i), place + "ready(" + i + ")");
            case 3 -> CHECK.due(model.permanent(i), rows.permanent(i), place + "permanent(" + i + ")");
            case 4 -> CHECK.due(model.freeze(i % 5), rows.freeze(i % 5), place + "freeze(" + i % 5 + ")");
            default -> answer(place);
        }
    }

    private void answer(String place) {
        int[][] asked = {{1, 1}, {1, 33}, {2, random.nextInt(9)}, {3, odd()}, {7, 0}, {9, 8}, {10, odd()}, {odd(), 1}};
        int[] one = asked[random.nextInt(asked.length)];
        String call = place + "answer(" + one[0] + ", " + one[1] + ")";
        CHECK.due(model.answer(one[0], one[1]), rows.answer(one[0], one[1]), call);
        CHECK.octets(rows, call, model.octets());
        calls += model.octets().length + 5;
    }

    private long ratio(int monitor, int side) {
        try {
            return rows.ratio(monitor, side);
        } catch (ArithmeticException e) {
            return Long.MIN_VALUE;
        }
    }

    private int odd() {
        int[] numbers = {Integer.MIN_VALUE, -1, 0, 255, 256, 65535, 65536, 1000000000, 1000000001, Integer.MAX_VALUE};
        return numbers[random.nextInt(numbers.length)];
    }
}
