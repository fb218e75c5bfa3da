import java.util.ArrayList;

/**
 * What a car tells of its emissions: monitors, trouble codes, the lamp, and the
 * answers that a scan tool gets by modes.
 */
public final class EmissionRows {
    private static final int UNKNOWN_NUMBER = -1;
    private static final int OUTSIDE_RANGE = -2;
    private static final int NO_ROOM = -4;

    private static final int MOST_MONITORS = 16;
    private static final int KINDS = 4;
    private static final int CONDITIONS = 8;
    private static final int HIGHEST_CONDITIONS = 255;
    private static final int HIGHEST_TESTS = 65535;

    private static final int MOST_CODES = 20;
    private static final int HIGHEST_CODE = 65535;

    private static final long LONGEST_WAY = 1000000000L;
    private static final long METRES_OF_A_KILOMETRE = 1000L;
    private static final long HIGHEST_OF_TWO_OCTETS = 65535L;

    private static final int MODE_NOW = 1;
    private static final int MODE_FROZEN = 2;
    private static final int MODE_CONFIRMED = 3;
    private static final int MODE_PENDING = 7;
    private static final int MODE_COUNTS = 9;
    private static final int MODE_PERMANENT = 10;
    private static final int ANSWERS_TO_MODE = 64;
    private static final int ID_STATE = 1;
    private static final int ID_DISTANCE = 33;
    private static final int ID_COUNTS = 8;
    private static final int LAMP_BIT = 128;

    private static final int NO_MONITORS = 2;
    private static final int ALL_READY = 1;
    private static final int SOME_NOT_READY = 0;

    private final ArrayList<Monitor> monitors = new ArrayList<>();
    private final ArrayList<Code> codes = new ArrayList<>();
    private final Lamp warning = new Lamp();
    private final Octets told = new Octets();
    private int cycles = 0;

    public EmissionRows() {
    }

    public int monitor(int kind, int condition) {
        if (!isKind(kind) || condition < 0 || condition >= CONDITIONS) {
            return OUTSIDE_RANGE;
        }
        if (monitors.size() >= MOST_MONITORS) {
            return NO_ROOM;
        }
        monitors.add(new Monitor(kind, condition));
        return monitors.size();
    }

    public int cycle(int conditions, int tests) {
        if (conditions < 0 || conditions > HIGHEST_CONDITIONS || tests < 0 || tests > HIGHEST_TESTS) {
            return OUTSIDE_RANGE;
        }
        cycles++;
        int withChance = passMonitors(conditions, tests);
        passCodes(conditions);
        warning.follow(howManyConfirmed() > 0);
        return withChance;
    }

    public int count(int monitor, int which) {
        if (!isMonitor(monitor)) {
            return UNKNOWN_NUMBER;
        }
        Monitor asked = monitors.get(monitor - 1);
        return which == 0 ? asked.runs : asked.chances;
    }

    public long ratio(int monitor, int side) throws ArithmeticException {
        if (!isMonitor(monitor)) {
            return UNKNOWN_NUMBER;
        }
        Monitor asked = monitors.get(monitor - 1);
        if (asked.chances == 0) {
            throw new ArithmeticException("the monitor had no chance");
        }
        return inLowestTerms(side == 0 ? asked.runs : asked.chances, asked.runs, asked.chances);
    }

    public int ready(int i) {
        return isKind(i) ? readinessOf(i) : OUTSIDE_RANGE;
    }

    public int fault(int code, boolean on) {
        if (code < 1 || code > HIGHEST_CODE) {
            return OUTSIDE_RANGE;
        }
        Code known = knownCode(code);
        if (known != null) {
            known.on = on;
            return codes.size();
        }
        if (codes.size() >= MOST_CODES) {
            return NO_ROOM;
        }
        codes.add(new Code(code, on));
        return codes.size();
    }

    public int permanent(int i) {
        int before = 0;
        for (int k = 0; k < codes.size(); k++) {
            Code code = codes.get(k);
            if (code.lasting) {
                if (before == i) {
                    return code.number;
                }
                before++;
            }
        }
        return 0;
    }

    public int clear() {
        int confirmed = howManyConfirmed();
        for (int k = 0; k < codes.size(); k++) {
            codes.get(k).forgetFault();
        }
        for (int m = 0; m < monitors.size(); m++) {
            monitors.get(m).tested = false;
        }
        warning.reset();
        return confirmed;
    }

    public int lamp(long metres, long minutes) {
        if (metres < 0 || metres > LONGEST_WAY || minutes < 0 || minutes > LONGEST_WAY) {
            return OUTSIDE_RANGE;
        }
        return warning.goOn(metres, minutes) ? 1 : 0;
    }

    public int freeze(int i) {
        if (i < 0 || i > 3) {
            return OUTSIDE_RANGE;
        }
        if (i == 3) {
            return inTwoOctets(warning.minutes);
        }
        Code code = firstFrozen();
        if (code == null) {
            return 0;
        }
        if (i == 0) {
            return code.number;
        }
        return i == 1 ? code.frozenCycle : code.frozenConditions;
    }

    public int answer(int mode, int id) {
        told.drop();
        switch (mode) {
            case MODE_NOW:
                tellNow(id);
                break;
            case MODE_FROZEN:
                tellFrozen(id);
                break;
            case MODE_COUNTS:
                tellCounts(id);
                break;
            case MODE_CONFIRMED:
            case MODE_PENDING:
            case MODE_PERMANENT:
                tellCodes(mode);
                break;
            default:
                break;
        }
        return told.length;
    }

    public byte at(int i) throws IndexOutOfBoundsException {
        if (!told.has(i)) {
            throw new IndexOutOfBoundsException("the answer has no such octet");
        }
        return told.octets[i];
    }

    public int sum() {
        return told.total();
    }

    private static boolean isKind(int kind) {
        return kind >= 0 && kind < KINDS;
    }

    private boolean isMonitor(int number) {
        return number >= 1 && number <= monitors.size();
    }

    private int passMonitors(int conditions, int tests) {
        int withChance = 0;
        for (int m = 0; m < monitors.size(); m++) {
            if (monitors.get(m).endCycle(conditions, isBitSet(tests, m))) {
                withChance++;
            }
        }
        return withChance;
    }

    private void passCodes(int conditions) {
        for (int k = 0; k < codes.size(); k++) {
            Code code = codes.get(k);
            if (code.on) {
                code.endCycleOn(cycles, conditions);
            } else {
                code.endCycleOff(conditions);
            }
        }
    }

    private int howManyConfirmed() {
        int confirmed = 0;
        for (int k = 0; k < codes.size(); k++) {
            if (codes.get(k).confirmed) {
                confirmed++;
            }
        }
        return confirmed;
    }

    private int readinessOf(int kind) {
        int readiness = NO_MONITORS;
        for (int m = 0; m < monitors.size(); m++) {
            Monitor monitor = monitors.get(m);
            if (monitor.kind == kind) {
                if (!monitor.tested) {
                    return SOME_NOT_READY;
                }
                readiness = ALL_READY;
            }
        }
        return readiness;
    }

    private Code knownCode(int number) {
        for (int k = 0; k < codes.size(); k++) {
            Code code = codes.get(k);
            if (code.number == number) {
                return code;
            }
        }
        return null;
    }

    private Code firstFrozen() {
        for (int k = 0; k < codes.size(); k++) {
            Code code = codes.get(k);
            if (code.hasFrozenRow()) {
                return code;
            }
        }
        return null;
    }

    private void tellNow(int id) {
        if (id == ID_STATE) {
            told.begin(MODE_NOW);
            told.add(id);
            told.add(howManyConfirmed() + (warning.lit ? LAMP_BIT : 0));
            told.add(kindsNotReady());
        } else if (id == ID_DISTANCE) {
            told.begin(MODE_NOW);
            told.add(id);
            told.addTwo(inTwoOctets(warning.metres / METRES_OF_A_KILOMETRE));
        }
    }

    private int kindsNotReady() {
        int bits = 0;
        for (int kind = 0; kind < KINDS; kind++) {
            if (readinessOf(kind) == SOME_NOT_READY) {
                bits |= 1 << kind;
            }
        }
        return bits;
    }

    private void tellFrozen(int id) {
        Code code = firstFrozen();
        if (id < 0 || id >= CONDITIONS || code == null) {
            return;
        }
        told.begin(MODE_FROZEN);
        told.add(id);
        told.addTwo(code.number);
        told.addTwo(code.frozenCycle);
        told.add(isBitSet(code.frozenConditions, id) ? 1 : 0);
    }

    private void tellCounts(int id) {
        if (id != ID_COUNTS) {
            return;
        }
        told.begin(MODE_COUNTS);
        told.add(id);
        for (int m = 0; m < monitors.size(); m++) {
            Monitor monitor = monitors.get(m);
            told.add(monitor.runs);
            told.add(monitor.chances);
        }
    }

    private void tellCodes(int mode) {
        told.begin(mode);
        for (int k = 0; k < codes.size(); k++) {
            Code code = codes.get(k);
            if (code.isToldIn(mode)) {
                told.addTwo(code.number);
            }
        }
    }

    private static boolean isBitSet(int bits, int bit) {
        return (bits >> bit & 1) == 1;
    }

    private static int inTwoOctets(long value) {
        return (int) Math.min(value, HIGHEST_OF_TWO_OCTETS);
    }

    // Counts stay at 100 or below, so trying each divisor downwards is cheap and plainly ends.
    private static int inLowestTerms(int part, int runs, int chances) {
        for (int divisor = chances; divisor > 1; divisor--) {
            if (runs % divisor == 0 && chances % divisor == 0) {
                return part / divisor;
            }
        }
        return part;
    }

    private static final class Monitor {
        private static final int KIND_BOTH_HOLD = 1;
        private static final int KIND_EACH_SECOND = 2;
        private static final int KIND_HOLDS_NOT = 3;
        private static final int MOST_CHANCES = 100;

        private final int kind;
        private final int condition;
        private int runs = 0;
        private int chances = 0;
        private int cyclesHeld = 0;
        private boolean tested = false;

        private Monitor(int kind, int condition) {
            this.kind = kind;
            this.condition = condition;
        }

        private boolean endCycle(int conditions, boolean testRun) {
            boolean chance = hasChance(conditions);
            if (chance) {
                countChance(testRun);
            }
            if (testRun) {
                tested = true;
            }
            return chance;
        }

        private boolean hasChance(int conditions) {
            boolean holds = isBitSet(conditions, condition);
            if (holds) {
                cyclesHeld++;
            }
            switch (kind) {
                case KIND_BOTH_HOLD:
                    return holds && isBitSet(conditions, (condition + 1) % CONDITIONS);
                case KIND_EACH_SECOND:
                    return holds && cyclesHeld % 2 == 0;
                case KIND_HOLDS_NOT:
                    return !holds;
                default:
                    return holds;
            }
        }

        private void countChance(boolean testRun) {
            if (chances >= MOST_CHANCES) {
                runs /= 2;
                chances /= 2;
            }
            chances++;
            if (testRun) {
                runs++;
            }
        }
    }

    private static final class Code {
        private static final int CYCLES_TO_HEAL = 3;
        private static final int NOT_FROZEN = 0;

        private final int number;
        private boolean on;
        private boolean pending = false;
        private boolean confirmed = false;
        private boolean lasting = false;
        private int offInARow = 0;
        private int offWithConditionZero = 0;
        private int frozenCycle = NOT_FROZEN;
        private int frozenConditions = 0;

        private Code(int number, boolean on) {
            this.number = number;
            this.on = on;
        }

        private void endCycleOn(int cycle, int conditions) {
            offInARow = 0;
            offWithConditionZero = 0;
            if (pending) {
                pending = false;
                confirmed = true;
                lasting = true;
            } else if (!confirmed) {
                pending = true;
                frozenCycle = cycle;
                frozenConditions = conditions;
            }
        }

        private void endCycleOff(int conditions) {
            offInARow++;
            if (isBitSet(conditions, 0)) {
                offWithConditionZero++;
            }
            if (pending || offInARow >= CYCLES_TO_HEAL) {
                forgetFault();
            }
            if (offWithConditionZero >= CYCLES_TO_HEAL) {
                lasting = false;
            }
        }

        // What makes a code permanent is left alone: only cycles take that away.
        private void forgetFault() {
            pending = false;
            confirmed = false;
            offInARow = 0;
            frozenCycle = NOT_FROZEN;
            frozenConditions = 0;
        }

        private boolean hasFrozenRow() {
            return frozenCycle != NOT_FROZEN;
        }

        private boolean isToldIn(int mode) {
            switch (mode) {
                case MODE_CONFIRMED:
                    return confirmed;
                case MODE_PENDING:
                    return pending;
                case MODE_PERMANENT:
                    return lasting;
                default:
                    return false;
            }
        }
    }

    private static final class Lamp {
        private boolean lit = false;
        private long metres = 0;
        private long minutes = 0;

        private void follow(boolean someConfirmed) {
            if (someConfirmed && !lit) {
                reset();
            }
            lit = someConfirmed;
        }

        private boolean goOn(long moreMetres, long moreMinutes) {
            if (lit) {
                metres += moreMetres;
                minutes += moreMinutes;
            }
            return lit;
        }

        private void reset() {
            lit = false;
            metres = 0;
            minutes = 0;
        }
    }

    private static final class Octets {
        // The longest answer has its mode's octet and two octets for each known code.
        private static final int MOST_OCTETS = 1 + 2 * MOST_CODES;

        private final byte[] octets = new byte[MOST_OCTETS];
        private int length = 0;

        private void drop() {
            length = 0;
        }

        private void begin(int mode) {
            add(ANSWERS_TO_MODE + mode);
        }

        private void add(int octet) {
            if (length >= 0 && length < octets.length) {
                octets[length] = (byte) octet;
                length++;
            }
        }

        private void addTwo(int number) {
            add(number >> 8);
            add(number);
        }

        private boolean has(int i) {
            return i >= 0 && i < length && i < octets.length;
        }

        private int total() {
            int total = 0;
            for (int i = 0; i < length && i < octets.length; i++) {
                total += octets[i] & 255;
            }
            return total;
        }
    }
}
