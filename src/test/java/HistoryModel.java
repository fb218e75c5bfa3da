import java.util.ArrayList;
import java.util.List;
import java.util.regex.Matcher;
import java.util.regex.Pattern;

/**
 * The document read a second way, to be compared with the program: it keeps the history of what
 * happened and reads every answer from that, a code's states by patterns over its cycles.
 */
final class HistoryModel {
    /** In a code's history: a cycle ON, a cycle OFF (z with condition 0, o without), a clear. */
    private static final char ON = '1';
    private static final char OFF_WITH_ZERO = 'z';
    private static final char OFF = 'o';
    private static final char CLEARED = 'C';

    private static final String HEALTHY = "((?:[oz]|1[oz]|11(?:[oz]{0,2}1)*[oz]{3})*)";
    private static final Pattern PENDING = Pattern.compile(HEALTHY + "1");
    private static final Pattern JUST_CONFIRMED = Pattern.compile(HEALTHY + "11");
    private static final Pattern CONFIRMED = Pattern.compile(HEALTHY + "11(?:[oz]{0,2}1)*[oz]{0,2}");

    private record Cycle(int conditions, int tests) { }

    private static final class Monitor {
        int kind;
        int condition;
        int bornAfter;
    }

    private static final class Code {
        int number;
        boolean on;
        int bornAfter;
        final StringBuilder history = new StringBuilder();
    }

    private final List<Cycle> cycles = new ArrayList<>();
    private final List<Monitor> monitors = new ArrayList<>();
    private final List<Code> codes = new ArrayList<>();
    private int cyclesAtClear = 0;
    private boolean lit = false;
    private long metres = 0;
    private long minutes = 0;
    private int[] octets = {};

    int monitor(int kind, int condition) {
        if (kind < 0 || kind > 3 || condition < 0 || condition > 7) {
            return -2;
        }
        if (monitors.size() == 16) {
            return -4;
        }
        Monitor made = new Monitor();
        made.kind = kind;
        made.condition = condition;
        made.bornAfter = cycles.size();
        monitors.add(made);
        return monitors.size();
    }

    int cycle(int conditions, int tests) {
        if ((conditions & ~255) != 0 || (tests & ~65535) != 0) {
            return -2;
        }
        cycles.add(new Cycle(conditions, tests));
        for (Code code : codes) {
            code.history.append(code.on ? ON : conditions % 2 == 1 ? OFF_WITH_ZERO : OFF);
        }
        boolean some = codes.stream().anyMatch(HistoryModel::isConfirmed);
        if (some && !lit) {
            metres = 0;
            minutes = 0;
        }
        lit = some;
        return (int) monitors.stream().filter(m -> chances(m).contains(cycles.size())).count();
    }

    /** The numbers of all cycles in which the monitor had a chance. */
    private List<Integer> chances(Monitor monitor) {
        List<Integer> held = new ArrayList<>();
        List<Integer> chances = new ArrayList<>();
        for (int number = monitor.bornAfter + 1; number <= cycles.size(); number++) {
            int conditions = cycles.get(number - 1).conditions();
            boolean holds = (conditions & 1 << monitor.condition) != 0;
            boolean nextHolds = ((conditions | conditions << 8) & 2 << monitor.condition) != 0;
            if (holds) {
                held.add(number);
            }
            boolean chance = switch (monitor.kind) {
                case 0 -> holds;
                case 1 -> holds && nextHolds;
                case 2 -> holds && held.size() % 2 == 0;
                default -> !holds;
            };
            if (chance) {
                chances.add(number);
            }
        }
        return chances;
    }

    private boolean wasTested(int monitor, int cycle) {
        return (cycles.get(cycle - 1).tests() & 1 << monitor - 1) != 0;
    }

    int count(int monitor, int which) {
        if (monitor < 1 || monitor > monitors.size()) {
            return -1;
        }
        int runs = 0;
        int chances = 0;
        for (int number : chances(monitors.get(monitor - 1))) {
            if (chances == 100) {
                runs = runs / 2;
                chances = 50;
            }
            chances++;
            runs += wasTested(monitor, number) ? 1 : 0;
        }
        return which == 0 ? runs : chances;
    }

    /** Long.MIN_VALUE where the program is due to throw. */
    long ratio(int monitor, int side) {
        int runs = count(monitor, 0);
        int chances = count(monitor, 1);
        if (runs < 0) {
            return -1;
        }
        if (chances == 0) {
            return Long.MIN_VALUE;
        }
        int divisor = java.math.BigInteger.valueOf(runs).gcd(java.math.BigInteger.valueOf(chances)).intValue();
        return (side == 0 ? runs : chances) / divisor;
    }

    int ready(int kind) {
        if (kind < 0 || kind > 3) {
            return -2;
        }
        int answer = 2;
        for (int m = 1; m <= monitors.size(); m++) {
            Monitor monitor = monitors.get(m - 1);
            if (monitor.kind == kind) {
                boolean ready = false;
                for (int c = Math.max(monitor.bornAfter, cyclesAtClear) + 1; c <= cycles.size(); c++) {
                    ready |= wasTested(m, c);
                }
                answer = Math.min(answer, ready ? 1 : 0);
            }
        }
        return answer;
    }

    int fault(int number, boolean on) {
        if (number <= 0 || number >= 65536) {
            return -2;
        }
        for (Code code : codes) {
            if (code.number == number) {
                code.on = on;
                return codes.size();
            }
        }
        if (codes.size() == 20) {
            return -4;
        }
        Code made = new Code();
        made.number = number;
        made.on = on;
        made.bornAfter = cycles.size();
        codes.add(made);
        return codes.size();
    }

    private static String sinceClear(CharSequence history) {
        String text = history.toString();
        return text.substring(text.lastIndexOf(CLEARED) + 1);
    }

    private static boolean isPending(Code code) {
        return PENDING.matcher(sinceClear(code.history)).matches();
    }

    private static boolean isConfirmed(Code code) {
        return CONFIRMED.matcher(sinceClear(code.history)).matches();
    }

    private static boolean isPermanent(Code code) {
        for (int end = 2; end <= code.history.length(); end++) {
            CharSequence first = code.history.subSequence(0, end);
            boolean madeThere = first.charAt(end - 1) == ON && JUST_CONFIRMED.matcher(sinceClear(first)).matches();
            if (madeThere && !isTakenAway(code.history.substring(end))) {
                return true;
            }
        }
        return false;
    }

    private static boolean isTakenAway(String later) {
        for (String off : later.split("1")) {
            if (off.chars().filter(c -> c == OFF_WITH_ZERO).count() >= 3) {
                return true;
            }
        }
        return false;
    }

    /** The cycle of the code's frozen row, or 0. */
    private static int frozenCycle(Code code) {
        String text = sinceClear(code.history);
        for (Pattern pattern : new Pattern[] {PENDING, CONFIRMED}) {
            Matcher matcher = pattern.matcher(text);
            if (matcher.matches()) {
                int at = code.history.length() - text.length() + matcher.end(1);
                long clears = code.history.substring(0, at).chars().filter(c -> c == CLEARED).count();
                return code.bornAfter + at - (int) clears + 1;
            }
        }
        return 0;
    }

    int permanent(int i) {
        int[] numbers = codes.stream().filter(HistoryModel::isPermanent).mapToInt(c -> c.number).toArray();
        return i >= 0 && i < numbers.length ? numbers[i] : 0;
    }

    int clear() {
        int confirmed = (int) codes.stream().filter(HistoryModel::isConfirmed).count();
        for (Code code : codes) {
            code.history.append(CLEARED);
        }
        cyclesAtClear = cycles.size();
        lit = false;
        metres = 0;
        minutes = 0;
        return confirmed;
    }

    int lamp(long moreMetres, long moreMinutes) {
        long most = 1000000000L;
        if (moreMetres < 0 || moreMetres > most || moreMinutes < 0 || moreMinutes > most) {
            return -2;
        }
        if (!lit) {
            return 0;
        }
        metres += moreMetres;
        minutes += moreMinutes;
        return 1;
    }

    int freeze(int i) {
        if (i < 0 || i > 3) {
            return -2;
        }
        if (i == 3) {
            return minutes > 65535 ? 65535 : (int) minutes;
        }
        for (Code code : codes) {
            int cycle = frozenCycle(code);
            if (cycle > 0) {
                return new int[] {code.number, cycle, cycles.get(cycle - 1).conditions()}[i];
            }
        }
        return 0;
    }

    int answer(int mode, int id) {
        List<Integer> row = new ArrayList<>();
        row.add(64 + mode);
        if (mode == 1 && id == 1) {
            row.add(1);
            row.add((int) codes.stream().filter(HistoryModel::isConfirmed).count() | (lit ? 128 : 0));
            row.add((ready(0) == 0 ? 1 : 0) + (ready(1) == 0 ? 2 : 0) + (ready(2) == 0 ? 4 : 0) + (ready(3) == 0 ? 8 : 0));
        } else if (mode == 1 && id == 33) {
            row.add(33);
            twoOctets(row, metres / 1000 > 65535 ? 65535 : (int) (metres / 1000));
        } else if (mode == 2 && id >= 0 && id <= 7 && freeze(0) != 0) {
            row.add(id);
            twoOctets(row, freeze(0));
            twoOctets(row, freeze(1));
            row.add((freeze(2) & 1 << id) == 0 ? 0 : 1);
        } else if (mode == 3) {
            codes.stream().filter(HistoryModel::isConfirmed).forEach(c -> twoOctets(row, c.number));
        } else if (mode == 7) {
            codes.stream().filter(HistoryModel::isPending).forEach(c -> twoOctets(row, c.number));
        } else if (mode == 10) {
            codes.stream().filter(HistoryModel::isPermanent).forEach(c -> twoOctets(row, c.number));
        } else if (mode == 9 && id == 8) {
            row.add(8);
            for (int m = 1; m <= monitors.size(); m++) {
                row.add(count(m, 0));
                row.add(count(m, 1));
            }
        } else {
            row.clear();
        }
        octets = row.stream().mapToInt(Integer::intValue).toArray();
        return octets.length;
    }

    private static void twoOctets(List<Integer> row, int number) {
        row.add(number / 256);
        row.add(number % 256);
    }

    int[] octets() {
        return octets;
    }
}
