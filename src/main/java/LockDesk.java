import java.util.Arrays;

/**
 * Locks of six sessions: tables in eight modes, with a queue in which nobody is overtaken by what
 * stands in his way, rows that are shared or updated by numbers, waits for either, and rings of
 * waits, which are never closed.
 *
 * <p>Each public method looks at its arguments before it hands them on, so the classes inside may
 * take every session, table, mode, level and row that reaches them for a right one.
 */
public final class LockDesk {
    private static final int SESSIONS = 6;
    private static final int TABLES = 8;
    private static final int MODES = 8;
    private static final int LEVELS = 8;
    private static final int ROWS = 1200;
    private static final int NUMBERS = 4000;
    private static final int CALLS = 512;

    private static final int SHARED = 1;
    private static final int UPDATE = 2;

    private static final int REFUSED = -1;
    private static final int DONE = 0;
    private static final int WAITS = 1;
    private static final int RING = 2;
    private static final int NONE = -1;

    private static final int DROPPED_SESSION = 8;
    private static final int DROPPED_WISH = 1000;
    private static final int NUMBER_WISH = 10000;

    /** At a mode's place the modes that conflict with it, mode m as bit m. */
    private static final int[] CONFLICTS = {
        0b000000000,
        0b100000000,
        0b110000000,
        0b111100000,
        0b111110000,
        0b111011000,
        0b111111000,
        0b111111100,
        0b111111110,
    };

    private final Numbers numbers;
    private final Holdings holdings;
    private final RowLocks rowLocks;
    private final Queue queue;

    public LockDesk() {
        numbers = new Numbers();
        holdings = new Holdings();
        rowLocks = new RowLocks();
        queue = new Queue();
    }

    public int number(int s) {
        return isSession(s) ? numbers.give(s) : REFUSED;
    }

    public boolean over(int n) {
        if (numbers.runnerOf(n) == NONE) {
            return false;
        }
        numbers.stop(n);
        rowLocks.forgetNumber(n);
        return true;
    }

    public int ask(int s, int level, int table, int mode) {
        if (!isSession(s) || !isLevel(level) || !isTable(table) || !isMode(mode)) {
            return REFUSED;
        }
        if (queue.contains(s)) {
            return REFUSED;
        }
        if (holdings.levelOf(s, table, mode) != NONE) {
            return DONE;
        }
        int way = inTheWay(s, table, mode, queue.size());
        if (way == 0) {
            holdings.take(s, level, table, mode);
            return DONE;
        }
        if (closesRing(s, way)) {
            return RING;
        }
        queue.addForTable(s, level, table, mode);
        return WAITS;
    }

    public int lock(int n, int row, int strength) {
        int s = numbers.runnerOf(n);
        if (s == NONE || !isRow(row) || strength < SHARED || strength > UPDATE) {
            return REFUSED;
        }
        if (queue.contains(s)) {
            return REFUSED;
        }
        if (rowLocks.suffices(s, row, strength)) {
            return DONE;
        }
        int other = rowLocks.leastInConflict(s, row, strength);
        if (other != NONE) {
            return other;
        }
        return rowLocks.note(n, s, row, strength) ? DONE : REFUSED;
    }

    public int await(int s, int n) {
        if (!isSession(s) || !numbers.wasGiven(n) || queue.contains(s)) {
            return REFUSED;
        }
        int runner = numbers.runnerOf(n);
        if (runner == NONE) {
            return DONE;
        }
        if (closesRing(s, 1 << runner)) {
            return RING;
        }
        queue.addForNumber(s, n);
        return WAITS;
    }

    public int next() {
        for (int k = 0; k < queue.size(); k++) {
            int s = queue.sessionAt(k);
            if (waitsOn(s) == 0) {
                return wake(s);
            }
        }
        return NONE;
    }

    public boolean cancel(int s) {
        if (!queue.contains(s)) {
            return false;
        }
        queue.remove(s);
        return true;
    }

    public boolean end(int s, int level) {
        if (!isSession(s) || !isLevel(level)) {
            return false;
        }
        holdings.giveUp(s, level);
        return true;
    }

    public boolean release(int s, int level) {
        if (!isSession(s) || !isLevel(level) || level == 0) {
            return false;
        }
        holdings.lower(s, level);
        queue.lower(s, level);
        return true;
    }

    public boolean drop(int table) {
        if (!isTable(table)) {
            return false;
        }
        holdings.forgetTable(table);
        queue.markDropped(table);
        return true;
    }

    public boolean clear(int row) {
        if (!isRow(row)) {
            return false;
        }
        rowLocks.forgetRow(row);
        return true;
    }

    public int holds(int s, int table, int mode) {
        if (!isSession(s) || !isTable(table) || !isMode(mode)) {
            return NONE;
        }
        return holdings.levelOf(s, table, mode);
    }

    public int locker(int row, int k) {
        return rowLocks.signedNumberAt(row, k);
    }

    public int on(int s) {
        return waitsOn(s);
    }

    public int waiting(int k) {
        return queue.sessionAt(k);
    }

    public int wish(int s) {
        if (!isSession(s)) {
            return REFUSED;
        }
        if (!queue.contains(s)) {
            return 0;
        }
        if (queue.isForNumber(s)) {
            return NUMBER_WISH + queue.numberOf(s);
        }
        int wanted = 10 * queue.tableOf(s) + queue.modeOf(s);
        return queue.isDropped(s) ? DROPPED_WISH + wanted : wanted;
    }

    /** Ends the wait of a session that need not wait any more: the answer of next. */
    private int wake(int s) {
        queue.remove(s);
        if (queue.isForNumber(s)) {
            return s;
        }
        if (queue.isDropped(s)) {
            return s + DROPPED_SESSION;
        }
        holdings.take(s, queue.levelOf(s), queue.tableOf(s), queue.modeOf(s));
        return s;
    }

    /** The sessions on which a session waits, session t as bit t. */
    private int waitsOn(int s) {
        int place = queue.placeOf(s);
        if (place == NONE) {
            return 0;
        }
        if (queue.isForNumber(s)) {
            int runner = numbers.runnerOf(queue.numberOf(s));
            return runner == NONE ? 0 : 1 << runner;
        }
        // What is asked for after a drop is another table: its holders stop nobody who asked before.
        if (queue.isDropped(s)) {
            return 0;
        }
        return inTheWay(s, queue.tableOf(s), queue.modeOf(s), place);
    }

    /** The sessions in the way of one that has, or would have, this place in the queue. */
    private int inTheWay(int s, int table, int mode, int place) {
        int way = 0;
        for (int t = 0; t < SESSIONS; t++) {
            if (t != s && holdings.standAgainst(t, table, mode)) {
                way |= 1 << t;
            }
        }
        return way | queue.earlierAgainst(table, mode, place);
    }

    /** Whether s, which does not wait, would come to wait on itself if it waited on these first. */
    private boolean closesRing(int s, int first) {
        int reached = first;
        // A round goes one step on at least, and no way through six sessions needs more than six.
        for (int round = 0; round < SESSIONS; round++) {
            for (int t = 0; t < SESSIONS; t++) {
                if (has(reached, t)) {
                    reached |= waitsOn(t);
                }
            }
        }
        return has(reached, s);
    }

    private static boolean conflict(int mode, int other) {
        return has(CONFLICTS[mode], other);
    }

    private static boolean has(int bits, int place) {
        return (bits & 1 << place) != 0;
    }

    private static boolean isSession(int s) {
        return s >= 0 && s < SESSIONS;
    }

    private static boolean isTable(int table) {
        return table >= 0 && table < TABLES;
    }

    private static boolean isMode(int mode) {
        return mode >= 1 && mode <= MODES;
    }

    private static boolean isLevel(int level) {
        return level >= 0 && level < LEVELS;
    }

    private static boolean isRow(int row) {
        return row >= 0 && row < ROWS;
    }

    /** Which numbers were given, to whom, and which of them run. */
    private static final class Numbers {
        /** At a number's place the session whose it is, NONE once it is over. */
        private final byte[] runners = new byte[NUMBERS + 1];
        private int given = 0;

        int give(int s) {
            if (given >= NUMBERS) {
                return REFUSED;
            }
            given++;
            runners[given] = (byte) s;
            return given;
        }

        boolean wasGiven(int n) {
            return n >= 1 && n <= given;
        }

        int runnerOf(int n) {
            return wasGiven(n) ? runners[n] : NONE;
        }

        void stop(int n) {
            if (wasGiven(n)) {
                runners[n] = NONE;
            }
        }
    }

    /** Which session holds which table in which mode, and at which level. */
    private static final class Holdings {
        private static final int CELLS_OF_SESSION = TABLES * MODES;

        /** A cell for each session, table and mode: the level, NONE if it is not held. */
        private final byte[] levels = new byte[SESSIONS * CELLS_OF_SESSION];

        Holdings() {
            Arrays.fill(levels, (byte) NONE);
        }

        int levelOf(int s, int table, int mode) {
            return levels[cell(s, table, mode)];
        }

        void take(int s, int level, int table, int mode) {
            levels[cell(s, table, mode)] = (byte) level;
        }

        boolean standAgainst(int s, int table, int mode) {
            for (int held = 1; held <= MODES; held++) {
                if (conflict(mode, held) && levels[cell(s, table, held)] != NONE) {
                    return true;
                }
            }
            return false;
        }

        void giveUp(int s, int level) {
            replaceFrom(s, level, NONE);
        }

        void lower(int s, int level) {
            replaceFrom(s, level, level - 1);
        }

        void forgetTable(int table) {
            for (int s = 0; s < SESSIONS; s++) {
                for (int mode = 1; mode <= MODES; mode++) {
                    levels[cell(s, table, mode)] = NONE;
                }
            }
        }

        private void replaceFrom(int s, int lowest, int level) {
            int start = cell(s, 0, 1);
            for (int i = start; i < start + CELLS_OF_SESSION; i++) {
                if (levels[i] >= lowest) {
                    levels[i] = (byte) level;
                }
            }
        }

        private static int cell(int s, int table, int mode) {
            return s * CELLS_OF_SESSION + table * MODES + mode - 1;
        }
    }

    /**
     * The locks of running numbers on rows, one for each number and row, by the size of the number:
     * so the first that is found is the least.
     */
    private static final class RowLocks {
        /** A call notes one lock at most, so there is room for all that an object's calls can note. */
        private final int[] lockers = new int[CALLS];
        private final int[] sessions = new int[CALLS];
        private final int[] rows = new int[CALLS];
        private final int[] strengths = new int[CALLS];
        private int count = 0;

        /** Whether a session has all that a lock of this strength would give it. */
        boolean suffices(int s, int row, int strength) {
            for (int i = 0; i < count; i++) {
                if (rows[i] == row && sessions[i] == s && strengths[i] >= strength) {
                    return true;
                }
            }
            return false;
        }

        int leastInConflict(int s, int row, int strength) {
            for (int i = 0; i < count; i++) {
                boolean update = strength == UPDATE || strengths[i] == UPDATE;
                if (rows[i] == row && sessions[i] != s && update) {
                    return lockers[i];
                }
            }
            return NONE;
        }

        /** False, and nothing is noted, if there is no room: only calls beyond the last promised. */
        boolean note(int n, int s, int row, int strength) {
            int place = 0;
            while (place < count && lockers[place] <= n) {
                if (lockers[place] == n && rows[place] == row) {
                    strengths[place] = strength;
                    return true;
                }
                place++;
            }
            if (count >= CALLS) {
                return false;
            }
            for (int i = count; i > place; i--) {
                copy(i - 1, i);
            }
            lockers[place] = n;
            sessions[place] = s;
            rows[place] = row;
            strengths[place] = strength;
            count++;
            return true;
        }

        void forgetNumber(int n) {
            forgetWhere(lockers, n);
        }

        void forgetRow(int row) {
            forgetWhere(rows, row);
        }

        /** The k-th number that locks a row, below 0 if it only shares it; 0 if there is none. */
        int signedNumberAt(int row, int k) {
            int before = 0;
            for (int i = 0; i < count; i++) {
                if (rows[i] != row) {
                    continue;
                }
                if (before == k) {
                    return strengths[i] == UPDATE ? lockers[i] : -lockers[i];
                }
                before++;
            }
            return 0;
        }

        private void forgetWhere(int[] keys, int key) {
            int kept = 0;
            for (int i = 0; i < count; i++) {
                if (keys[i] != key) {
                    copy(i, kept);
                    kept++;
                }
            }
            count = kept;
        }

        private void copy(int from, int to) {
            lockers[to] = lockers[from];
            sessions[to] = sessions[from];
            rows[to] = rows[from];
            strengths[to] = strengths[from];
        }
    }

    /**
     * The sessions that wait, in the order in which they began, and for what. What a session waited
     * for can be read until it waits again.
     */
    private static final class Queue {
        private final int[] order = new int[SESSIONS];
        private int count = 0;

        /** At a session's place the number that it waits for, 0 if it waits for a table. */
        private final int[] awaited = new int[SESSIONS];
        private final int[] tables = new int[SESSIONS];
        private final int[] modes = new int[SESSIONS];
        private final int[] levels = new int[SESSIONS];
        private final boolean[] dropped = new boolean[SESSIONS];

        int size() {
            return count;
        }

        int sessionAt(int place) {
            return place >= 0 && place < count ? order[place] : NONE;
        }

        int placeOf(int s) {
            for (int k = 0; k < count; k++) {
                if (order[k] == s) {
                    return k;
                }
            }
            return NONE;
        }

        boolean contains(int s) {
            return placeOf(s) != NONE;
        }

        void addForTable(int s, int level, int table, int mode) {
            awaited[s] = 0;
            tables[s] = table;
            modes[s] = mode;
            levels[s] = level;
            dropped[s] = false;
            append(s);
        }

        void addForNumber(int s, int n) {
            awaited[s] = n;
            append(s);
        }

        void remove(int s) {
            int kept = 0;
            for (int k = 0; k < count; k++) {
                if (order[k] != s) {
                    order[kept] = order[k];
                    kept++;
                }
            }
            count = kept;
        }

        /** The sessions before a place that wait for a table in a mode that conflicts with this. */
        int earlierAgainst(int table, int mode, int place) {
            int against = 0;
            for (int k = 0; k < count && k < place; k++) {
                int t = order[k];
                if (wants(t, table) && conflict(mode, modes[t])) {
                    against |= 1 << t;
                }
            }
            return against;
        }

        void markDropped(int table) {
            for (int k = 0; k < count; k++) {
                if (wants(order[k], table)) {
                    dropped[order[k]] = true;
                }
            }
        }

        void lower(int s, int level) {
            if (levels[s] >= level) {
                levels[s] = level - 1;
            }
        }

        boolean isForNumber(int s) {
            return awaited[s] != 0;
        }

        int numberOf(int s) {
            return awaited[s];
        }

        int tableOf(int s) {
            return tables[s];
        }

        int modeOf(int s) {
            return modes[s];
        }

        int levelOf(int s) {
            return levels[s];
        }

        boolean isDropped(int s) {
            return dropped[s];
        }

        private boolean wants(int s, int table) {
            return awaited[s] == 0 && tables[s] == table && !dropped[s];
        }

        private void append(int s) {
            if (count < SESSIONS) {
                order[count] = s;
                count++;
            }
        }
    }
}
