/** Objects in the states that many tests start from, and what can be seen of an object. */
final class Cars {
    /** The codes of withCodes are this one and those behind it. */
    static final int FIRST_CODE = 0x0180;

    private Cars() {
    }

    static EmissionRows withMonitors(int many, int kind, int condition) {
        EmissionRows rows = new EmissionRows();
        for (int m = 0; m < many; m++) {
            rows.monitor(kind, condition);
        }
        return rows;
    }

    static EmissionRows withCodes(int many, boolean on) {
        EmissionRows rows = new EmissionRows();
        tellAll(rows, many, on);
        return rows;
    }

    static EmissionRows withPending(int many) {
        EmissionRows rows = withCodes(many, true);
        rows.cycle(0, 0);
        return rows;
    }

    static EmissionRows withConfirmed(int many) {
        EmissionRows rows = withPending(many);
        rows.cycle(0, 0);
        return rows;
    }

    static void tellAll(EmissionRows rows, int many, boolean on) {
        for (int k = 0; k < many; k++) {
            rows.fault(FIRST_CODE + k, on);
        }
    }

    static void cycles(EmissionRows rows, int many, int conditions, int tests) {
        for (int c = 0; c < many; c++) {
            rows.cycle(conditions, tests);
        }
    }

    /** The answer due that lists the first codes of withCodes. */
    static int[] list(int head, int many) {
        return list(head, 0, many);
    }

    /** The answer due that lists the codes of withCodes from one on, up to another that is not listed. */
    static int[] list(int head, int from, int to) {
        int[] octets = new int[1 + 2 * Math.max(0, to - from)];
        octets[0] = head;
        for (int k = from; k < to; k++) {
            octets[1 + 2 * (k - from)] = FIRST_CODE + k >> 8;
            octets[2 + 2 * (k - from)] = FIRST_CODE + k & 255;
        }
        return octets;
    }

    /** P for PENDING, C for CONFIRMED, L (it lasts) for PERMANENT, F if the first FROZEN row is the code's. */
    static String stateOf(EmissionRows rows, int code) {
        String state = "";
        state += lists(rows, 7, code) ? "P" : "";
        state += lists(rows, 3, code) ? "C" : "";
        state += lists(rows, 10, code) ? "L" : "";
        state += rows.freeze(0) == code ? "F" : "";
        return state;
    }

    private static boolean lists(EmissionRows rows, int mode, int code) {
        int length = rows.answer(mode, 0);
        for (int i = 1; i + 1 < length; i += 2) {
            if ((rows.at(i) & 255) * 256 + (rows.at(i + 1) & 255) == code) {
                return true;
            }
        }
        return false;
    }

    /** All that an object tells, the answer that stands first. It takes up to 250 of the object's calls. */
    static String everythingOf(EmissionRows rows) {
        StringBuilder all = new StringBuilder("sum ").append(rows.sum());
        for (int[] asked : new int[][] {{1, 1}, {1, 33}, {2, 0}, {3, 0}, {7, 0}, {9, 8}, {10, 0}}) {
            all.append(", answer ").append(asked[0]).append(' ').append(asked[1]).append(':');
            int length = rows.answer(asked[0], asked[1]);
            for (int i = 0; i < length; i++) {
                all.append(' ').append(rows.at(i) & 255);
            }
        }
        for (int i = 0; i < 4; i++) {
            all.append(", freeze ").append(rows.freeze(i)).append(", ready ").append(rows.ready(i));
        }
        for (int i = 0; rows.permanent(i) != 0; i++) {
            all.append(", permanent ").append(rows.permanent(i));
        }
        for (int m = 1; rows.count(m, 0) >= 0; m++) {
            all.append(", count ").append(rows.count(m, 0)).append(" of ").append(rows.count(m, 1));
        }
        return all.append(", lamp ").append(rows.lamp(0, 0)).toString();
    }
}
