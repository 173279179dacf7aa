import java.util.ArrayList;
import java.util.Comparator;
import java.util.HashMap;
import java.util.HashSet;
import java.util.List;
import java.util.Map;
import java.util.Random;
import java.util.Set;

/**
 * Long runs of calls, drawn from a fixed seed, against a plain model that keeps all that was ever
 * noted and works out each answer from the document's terms. The arguments are drawn mostly from
 * few tables, rows and numbers, so that sessions meet, and now and then from outside the bounds.
 */
public final class RandomRunsTest {
    private static final int RUNS = 4000;
    private static final int CALLS = 512;
    /** How often each of Calls.NAMES is drawn, in their order. */
    private static final int[] WEIGHT = {4, 2, 14, 9, 7, 7, 2, 2, 3, 1, 1, 6, 6, 6, 3, 4};
    private static final int[] ODD = {-1, 6, 7, 8, 9, 1199, 1200, 4000, 4001, Integer.MIN_VALUE,
        Integer.MAX_VALUE};

    public static void main(String[] args) {
        Checks checks = new Checks();
        for (int run = 0; run < RUNS; run++) {
            new RandomRunsTest(run).go(checks);
        }
        stormOfAnything(checks);
        locksWithoutEnd(checks);
        checks.finish("RandomRunsTest");
    }

    private final int run;
    private final Random random;
    private final LockDesk desk = new LockDesk();
    private final Model model = new Model();
    private final int tables;
    private final int rows;

    private RandomRunsTest(int run) {
        this.run = run;
        this.random = new Random(run);
        this.tables = 1 + random.nextInt(4);
        this.rows = 1 + random.nextInt(3);
    }

    private void go(Checks checks) {
        checks.part("run " + run);
        for (int i = 0; i < CALLS; i++) {
            String name = draw();
            int a = argument(name, 0);
            int b = argument(name, 1);
            int c = argument(name, 2);
            int d = argument(name, 3);
            checks.due(i + ", " + name + "(" + a + ", " + b + ", " + c + ", " + d + ")",
                Calls.answer(desk, name, a, b, c, d), model.answer(name, a, b, c, d));
            if (model.hasRing()) {
                checks.due(i + ", " + name + " closed a ring", true, false);
            }
        }
    }

    private String draw() {
        int sum = 0;
        for (int weight : WEIGHT) {
            sum += weight;
        }
        int left = random.nextInt(sum);
        for (int k = 0; k < Calls.NAMES.length; k++) {
            left -= WEIGHT[k];
            if (left < 0) {
                return Calls.NAMES[k];
            }
        }
        return "next";
    }

    private int argument(String name, int place) {
        if (random.nextInt(60) == 0) {
            return ODD[random.nextInt(ODD.length)];
        }
        String kinds = switch (name) {
            case "over" -> "n";
            case "ask" -> "sltm";
            case "lock" -> "nrg";
            case "await" -> "sn";
            case "end", "release" -> "sl";
            case "drop" -> "t";
            case "clear" -> "r";
            case "holds" -> "stm";
            case "locker" -> "rk";
            case "waiting" -> "k";
            default -> "s";
        };
        return place < kinds.length() ? drawKind(kinds.charAt(place)) : 0;
    }

    private int drawKind(char kind) {
        return switch (kind) {
            case 's' -> random.nextInt(6);
            case 'l' -> random.nextInt(8);
            case 't' -> random.nextInt(tables);
            case 'm' -> 1 + random.nextInt(8);
            case 'n' -> Math.max(1, model.owners.size() - random.nextInt(12));
            case 'r' -> random.nextInt(rows);
            case 'g' -> 1 + random.nextInt(2);
            default -> random.nextInt(4);
        };
    }

    /** Whatever is called, however often: only answers, and never an exception. */
    private static void stormOfAnything(Checks checks) {
        checks.part("a storm of anything");
        Random random = new Random(7);
        for (int object = 0; object < 4; object++) {
            LockDesk desk = new LockDesk();
            for (int i = 0; i < 60000; i++) {
                String name = Calls.NAMES[random.nextInt(Calls.NAMES.length)];
                int bound = random.nextBoolean() ? 8 : 5000;
                int[] v = new int[4];
                for (int k = 0; k < v.length; k++) {
                    v[k] = random.nextInt(20) == 0 ? random.nextInt() : random.nextInt(bound);
                }
                int got = Calls.answer(desk, name, v[0], v[1], v[2], v[3]);
                checks.due(name + " answered " + got, got >= -4000 && got <= 14000, true);
            }
        }
    }

    /** Far more locks than 512 calls can note: their answers are free, but there are answers. */
    private static void locksWithoutEnd(Checks checks) {
        checks.part("locks without end");
        LockDesk desk = new LockDesk();
        for (int n = 1; n <= 3; n++) {
            checks.due("number", desk.number(0), n);
            for (int row = 0; row < 1200; row++) {
                int got = desk.lock(n, row, 2);
                checks.due("lock answered " + got, got == 0 || got == -1, true);
            }
        }
    }

    private record Hold(int session, int table, int mode) {
    }

    private record RowLock(int number, int row, int strength) {
    }

    private static final class Wait {
        int session;
        int number;
        int table;
        int mode;
        int level;
        boolean dropped;
    }

    private static final class Model {
        private static final String[] CONFLICTS =
            {"8", "78", "5678", "45678", "34678", "345678", "2345678", "12345678"};

        final List<Integer> owners = new ArrayList<>();
        private final Set<Integer> over = new HashSet<>();
        private final Map<Hold, Integer> held = new HashMap<>();
        private final List<RowLock> locks = new ArrayList<>();
        private final List<Wait> waits = new ArrayList<>();

        int answer(String name, int a, int b, int c, int d) {
            return switch (name) {
                case "number" -> number(a);
                case "over" -> Calls.truth(given(a) && over.add(a));
                case "ask" -> ask(a, b, c, d);
                case "lock" -> lock(a, b, c);
                case "await" -> await(a, b);
                case "next" -> next();
                case "cancel" -> Calls.truth(waits.removeIf(w -> w.session == a));
                case "end" -> end(a, b);
                case "release" -> release(a, b);
                case "drop" -> drop(a);
                case "clear" -> clear(a);
                case "holds" -> held.getOrDefault(new Hold(a, b, c), -1);
                case "locker" -> locker(a, b);
                case "on" -> sum(on(waitOf(a)));
                case "waiting" -> a >= 0 && a < waits.size() ? waits.get(a).session : -1;
                default -> wish(a);
            };
        }

        boolean hasRing() {
            for (Wait wait : waits) {
                if (reaches(on(wait), wait.session, new HashSet<>())) {
                    return true;
                }
            }
            return false;
        }

        private int number(int s) {
            if (!within(s, 0, 5) || owners.size() == 4000) {
                return -1;
            }
            owners.add(s);
            return owners.size();
        }

        private int ask(int s, int level, int table, int mode) {
            boolean right = within(s, 0, 5) && within(level, 0, 7) && within(table, 0, 7)
                && within(mode, 1, 8);
            if (!right || waitOf(s) != null) {
                return -1;
            }
            Hold wanted = new Hold(s, table, mode);
            if (held.containsKey(wanted)) {
                return 0;
            }
            Wait wait = new Wait();
            wait.session = s;
            wait.table = table;
            wait.mode = mode;
            wait.level = level;
            if (!on(wait).isEmpty()) {
                return begin(wait);
            }
            held.put(wanted, level);
            return 0;
        }

        private int await(int s, int n) {
            if (!within(s, 0, 5) || !given(n) || waitOf(s) != null) {
                return -1;
            }
            Wait wait = new Wait();
            wait.session = s;
            wait.number = n;
            return over.contains(n) ? 0 : begin(wait);
        }

        /** Begins the wait to see whether it closes a ring, and takes it back if so. */
        private int begin(Wait wait) {
            waits.add(wait);
            if (!hasRing()) {
                return 1;
            }
            waits.remove(wait);
            return 2;
        }

        private int lock(int n, int row, int strength) {
            if (!runs(n) || !within(row, 0, 1199) || !within(strength, 1, 2)
                || waitOf(owner(n)) != null) {
                return -1;
            }
            int least = Integer.MAX_VALUE;
            for (RowLock lock : locks) {
                if (lock.row != row || !runs(lock.number)) {
                    continue;
                }
                boolean own = owner(lock.number) == owner(n);
                if (own && (lock.strength == strength || lock.strength == 2)) {
                    return 0;
                }
                if (!own && (lock.strength == 2 || strength == 2)) {
                    least = Math.min(least, lock.number);
                }
            }
            if (least != Integer.MAX_VALUE) {
                return least;
            }
            locks.add(new RowLock(n, row, strength));
            return 0;
        }

        private int next() {
            for (Wait wait : waits) {
                if (on(wait).isEmpty()) {
                    waits.remove(wait);
                    if (wait.number == 0 && !wait.dropped) {
                        held.put(new Hold(wait.session, wait.table, wait.mode), wait.level);
                    }
                    return wait.dropped ? wait.session + 8 : wait.session;
                }
            }
            return -1;
        }

        private int end(int s, int level) {
            if (!within(s, 0, 5) || !within(level, 0, 7)) {
                return 0;
            }
            held.entrySet().removeIf(e -> e.getKey().session == s && e.getValue() >= level);
            return 1;
        }

        private int release(int s, int level) {
            if (!within(s, 0, 5) || !within(level, 1, 7)) {
                return 0;
            }
            held.replaceAll((hold, at) -> hold.session == s && at >= level ? level - 1 : at);
            Wait wait = waitOf(s);
            if (wait != null) {
                wait.level = Math.min(wait.level, wait.level >= level ? level - 1 : 7);
            }
            return 1;
        }

        private int drop(int table) {
            if (!within(table, 0, 7)) {
                return 0;
            }
            held.keySet().removeIf(hold -> hold.table == table);
            for (Wait wait : waits) {
                wait.dropped |= wait.number == 0 && wait.table == table;
            }
            return 1;
        }

        private int clear(int row) {
            locks.removeIf(lock -> lock.row == row);
            return Calls.truth(within(row, 0, 1199));
        }

        private int locker(int row, int k) {
            Map<Integer, Integer> strongest = new HashMap<>();
            for (RowLock lock : locks) {
                if (lock.row == row && runs(lock.number)) {
                    strongest.merge(lock.number, lock.strength, Math::max);
                }
            }
            List<Integer> numbers = new ArrayList<>(strongest.keySet());
            numbers.sort(Comparator.naturalOrder());
            if (k < 0 || k >= numbers.size()) {
                return 0;
            }
            int n = numbers.get(k);
            return strongest.get(n) == 2 ? n : -n;
        }

        private int wish(int s) {
            Wait wait = waitOf(s);
            if (wait == null) {
                return within(s, 0, 5) ? 0 : -1;
            }
            if (wait.number != 0) {
                return 10000 + wait.number;
            }
            return 10 * wait.table + wait.mode + (wait.dropped ? 1000 : 0);
        }

        private Wait waitOf(int s) {
            for (Wait wait : waits) {
                if (wait.session == s) {
                    return wait;
                }
            }
            return null;
        }

        /** On whom somebody waits, or would wait if the wait were begun now. */
        private Set<Integer> on(Wait wait) {
            Set<Integer> on = new HashSet<>();
            if (wait == null || wait.dropped) {
                return on;
            }
            if (wait.number != 0) {
                if (runs(wait.number)) {
                    on.add(owner(wait.number));
                }
                return on;
            }
            for (Hold hold : held.keySet()) {
                if (hold.table == wait.table && conflict(hold.mode, wait.mode)) {
                    on.add(hold.session);
                }
            }
            for (Wait earlier : waits) {
                if (earlier == wait) {
                    break;
                }
                if (earlier.number == 0 && !earlier.dropped && earlier.table == wait.table
                    && conflict(earlier.mode, wait.mode)) {
                    on.add(earlier.session);
                }
            }
            on.remove(wait.session);
            return on;
        }

        private boolean reaches(Set<Integer> from, int goal, Set<Integer> seen) {
            for (int s : from) {
                if (s == goal || seen.add(s) && reaches(on(waitOf(s)), goal, seen)) {
                    return true;
                }
            }
            return false;
        }

        private static int sum(Set<Integer> sessions) {
            int sum = 0;
            for (int s : sessions) {
                sum += 1 << s;
            }
            return sum;
        }

        private static boolean conflict(int mode, int other) {
            return CONFLICTS[mode - 1].contains(Integer.toString(other));
        }

        private boolean given(int n) {
            return within(n, 1, owners.size());
        }

        private boolean runs(int n) {
            return given(n) && !over.contains(n);
        }

        private int owner(int n) {
            return owners.get(n - 1);
        }

        private static boolean within(int value, int least, int most) {
            return value >= least && value <= most;
        }
    }
}
