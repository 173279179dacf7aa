import java.util.Set;
import java.util.TreeSet;

/**
 * What is there and what is not: each argument of each call at the first and the last value that the
 * terms name, at the values next to them, and at values that only a wrap-around would make right.
 */
public final class BoundsTest {
    private static final Checks CHECKS = new Checks();

    public static void main(String[] args) {
        sessionsThatAre();
        sessionsThatAreNot();
        tablesThatAre();
        tablesThatAreNot();
        modesThatAre();
        modesThatAreNot();
        levelsThatAre();
        levelsThatAreNot();
        rowsThatAre();
        rowsThatAreNot();
        strengthsThatAreNot();
        numbersThatWereNotGiven();
        numbersThatWereNotGivenYet();
        placesOfLockers();
        placesInTheOrder();
        CHECKS.finish("BoundsTest");
    }

    private static void due(String call, int got, int want) {
        CHECKS.due(call, got, want);
    }

    private static void due(String call, boolean got, boolean want) {
        CHECKS.due(call, got, want);
    }

    private static LockDesk start(String part) {
        CHECKS.part(part);
        return new LockDesk();
    }

    /**
     * Values that are not from least to most: those beside them, the ends of int, and those that
     * come back between the bounds if bits are cut off or a product wraps around.
     */
    private static Set<Integer> outside(int least, int most) {
        Set<Integer> values = new TreeSet<>();
        for (int bit = 0; bit < 32; bit++) {
            values.add(least - (1 << bit));
            values.add(most + (1 << bit));
            values.add(least + (1 << bit));
            values.add(most - (1 << bit));
        }
        values.add(Integer.MIN_VALUE);
        values.add(Integer.MAX_VALUE);
        values.removeIf(value -> value >= least && value <= most);
        return values;
    }

    private static void sessionsThatAre() {
        LockDesk x = start("SESSIONS are 0 .. 5");
        for (int s = 0; s <= 5; s++) {
            due("number(" + s + ")", x.number(s), s + 1);
            due("ask", x.ask(s, s, s, 8), 0);
            due("release", x.release(s, 7), true);
            due("wish", x.wish(s), 0);
            due("on", x.on(s), 0);
        }
        for (int s = 0; s <= 5; s++) {
            for (int t = 0; t <= 5; t++) {
                due("holds(" + s + ", " + t + ", 8)", x.holds(s, t, 8), s == t ? s : -1);
            }
        }
        for (int s = 0; s <= 4; s++) {
            due("await", x.await(s, s + 2), 1);
            due("on", x.on(s), 1 << s + 1);
        }
        due("over", x.over(6), true);
        due("await of the last", x.await(5, 1), 1);
        due("on", x.on(5), 1);
        for (int s = 0; s <= 5; s++) {
            due("cancel", x.cancel(s), true);
            due("end", x.end(s, 0), true);
            due("holds", x.holds(s, s, 8), -1);
        }
    }

    private static void sessionsThatAreNot() {
        Set<Integer> none = outside(0, 5);
        LockDesk x = start("number: -1 if there is no such session");
        for (int s : none) {
            due("number(" + s + ")", x.number(s), -1);
        }
        due("the first number is still to be given", x.number(0), 1);

        x = start("ask: -1 if there is no such session");
        for (int s : none) {
            due("ask(" + s + ", 0, 0, 8)", x.ask(s, 0, 0, 8), -1);
        }
        due("nobody holds it", x.ask(0, 7, 0, 8), 0);
        due("nobody waits", x.waiting(0), -1);

        x = start("await: -1 if there is no such session");
        due("number", x.number(0), 1);
        for (int s : none) {
            due("await(" + s + ", 1)", x.await(s, 1), -1);
        }
        due("over", x.over(1), true);
        for (int s : none) {
            due("await(" + s + ", 1), over", x.await(s, 1), -1);
        }
        due("nobody waits", x.waiting(0), -1);

        x = start("cancel: false if it does not wait");
        x.number(0);
        for (int s = 1; s <= 5; s++) {
            due("await", x.await(s, 1), 1);
        }
        for (int s : none) {
            due("cancel(" + s + ")", x.cancel(s), false);
        }
        due("all five wait", x.waiting(4), 5);

        x = start("end and release: false if there is no such session");
        for (int s = 0; s <= 5; s++) {
            x.ask(s, 4, s, 8);
        }
        for (int s : none) {
            due("end(" + s + ", 0)", x.end(s, 0), false);
            due("release(" + s + ", 1)", x.release(s, 1), false);
        }
        for (int s = 0; s <= 5; s++) {
            due("holds as before", x.holds(s, s, 8), 4);
        }

        x = start("holds: -1 if there is no such session");
        for (int s = 0; s <= 5; s++) {
            x.ask(s, 0, 0, 1);
            x.ask(s, 0, 7, 1);
        }
        for (int s : none) {
            due("holds(" + s + ", 0, 1)", x.holds(s, 0, 1), -1);
            due("holds(" + s + ", 7, 1)", x.holds(s, 7, 1), -1);
        }

        x = start("on: 0 if it does not wait; wish: -1 for no such session");
        x.number(0);
        for (int s = 1; s <= 5; s++) {
            due("await", x.await(s, 1), 1);
        }
        for (int s : none) {
            due("on(" + s + ")", x.on(s), 0);
            due("wish(" + s + ")", x.wish(s), -1);
        }
    }

    private static void tablesThatAre() {
        LockDesk x = start("TABLES 0 .. 7");
        for (int table = 0; table <= 7; table++) {
            due("ask(0, " + table + ")", x.ask(0, table, table, 8), 0);
        }
        for (int table = 0; table <= 7; table++) {
            due("holds", x.holds(0, table, 8), table);
            due("ask of another", x.ask(1, 0, table, 1), 1);
            due("wish", x.wish(1), 10 * table + 1);
            due("drop(" + table + ")", x.drop(table), true);
            due("wish", x.wish(1), 1000 + 10 * table + 1);
            due("next", x.next(), 9);
            due("holds", x.holds(0, table, 8), -1);
            due("the next table is held", x.holds(0, table + 1, 8), table < 7 ? table + 1 : -1);
        }
    }

    private static void tablesThatAreNot() {
        Set<Integer> none = outside(0, 7);
        LockDesk x = start("ask: -1 if there is no such table");
        for (int table : none) {
            due("ask(0, 0, " + table + ", 8)", x.ask(0, 0, table, 8), -1);
            due("ask(5, 7, " + table + ", 1)", x.ask(5, 7, table, 1), -1);
        }
        for (int table = 0; table <= 7; table++) {
            due("nobody holds it", x.ask(1, 0, table, 8), 0);
        }

        x = start("drop: false if there is no such table");
        for (int table = 0; table <= 7; table++) {
            x.ask(0, 3, table, 8);
        }
        x.ask(1, 0, 0, 1);
        x.ask(2, 0, 7, 1);
        for (int table : none) {
            due("drop(" + table + ")", x.drop(table), false);
        }
        for (int table = 0; table <= 7; table++) {
            due("holds as before", x.holds(0, table, 8), 3);
        }
        due("wish as before", x.wish(1), 1);
        due("wish as before", x.wish(2), 71);

        x = start("holds: -1 if there is no such table");
        for (int table = 0; table <= 7; table++) {
            x.ask(0, 0, table, 1);
            x.ask(3, 0, table, 1);
        }
        for (int table : none) {
            due("holds(0, " + table + ", 1)", x.holds(0, table, 1), -1);
            due("holds(3, " + table + ", 1)", x.holds(3, table, 1), -1);
        }
    }

    private static void modesThatAre() {
        LockDesk x = start("MODES are 1 .. 8");
        for (int mode = 1; mode <= 8; mode++) {
            due("ask(" + mode + ")", x.ask(3, 8 - mode, 4, mode), 0);
            due("holds the next mode", x.holds(3, 4, mode + 1), -1);
        }
        for (int mode = 1; mode <= 8; mode++) {
            due("holds(" + mode + ")", x.holds(3, 4, mode), 8 - mode);
            due("ask of another", x.ask(1, 0, 4, mode), 1);
            due("wish", x.wish(1), 40 + mode);
            due("cancel", x.cancel(1), true);
        }
    }

    private static void modesThatAreNot() {
        Set<Integer> none = outside(1, 8);
        LockDesk x = start("ask: -1 if there is no such mode");
        for (int mode : none) {
            due("ask(0, 0, 0, " + mode + ")", x.ask(0, 0, 0, mode), -1);
            due("ask(5, 7, 7, " + mode + ")", x.ask(5, 7, 7, mode), -1);
        }
        for (int table = 0; table <= 7; table++) {
            due("nobody holds it", x.ask(1, 0, table, 8), 0);
        }

        x = start("holds: -1 if there is no such mode");
        for (int table = 0; table <= 7; table++) {
            for (int mode = 1; mode <= 8; mode++) {
                x.ask(2, 0, table, mode);
            }
        }
        for (int mode : none) {
            due("holds(2, 0, " + mode + ")", x.holds(2, 0, mode), -1);
            due("holds(2, 7, " + mode + ")", x.holds(2, 7, mode), -1);
            due("holds(2, 3, " + mode + ")", x.holds(2, 3, mode), -1);
        }
    }

    private static void levelsThatAre() {
        for (int level = 0; level <= 7; level++) {
            LockDesk x = start("each at a LEVEL 0 .. 7: " + level);
            for (int at = 0; at <= 7; at++) {
                due("ask", x.ask(0, at, at, 1), 0);
                due("ask", x.ask(1, at, at, 1), 0);
                due("holds", x.holds(0, at, 1), at);
            }
            due("release, false for level 0", x.release(0, level), level > 0);
            for (int at = 0; at <= 7; at++) {
                int lowered = level > 0 && at >= level ? level - 1 : at;
                due("holds after release(0, " + level + ")", x.holds(0, at, 1), lowered);
            }
            due("end", x.end(1, level), true);
            for (int at = 0; at <= 7; at++) {
                due("holds after end(1, " + level + ")", x.holds(1, at, 1), at >= level ? -1 : at);
            }
        }
    }

    private static void levelsThatAreNot() {
        Set<Integer> none = outside(0, 7);
        LockDesk x = start("ask: -1 if there is no such level");
        x.ask(1, 0, 1, 8);
        x.ask(0, 0, 2, 1);
        for (int level : none) {
            due("ask(0, " + level + ", 0, 1)", x.ask(0, level, 0, 1), -1);
            due("what would wait", x.ask(0, level, 1, 1), -1);
            due("what is held", x.ask(0, level, 2, 1), -1);
        }
        due("holds", x.holds(0, 0, 1), -1);
        due("wish", x.wish(0), 0);

        x = start("end and release: false if there is no such level");
        for (int level = 0; level <= 7; level++) {
            x.ask(0, level, level, 1);
        }
        for (int level : none) {
            due("end(0, " + level + ")", x.end(0, level), false);
            due("release(0, " + level + ")", x.release(0, level), false);
        }
        for (int level = 0; level <= 7; level++) {
            due("holds as before", x.holds(0, level, 1), level);
        }
    }

    /** In parts, so that no object is used for more than 512 calls. */
    private static void rowsThatAre() {
        for (int first = 0; first < 1200; first += 100) {
            LockDesk x = start("ROWS 0 .. 1199: from " + first);
            x.number(0);
            x.number(1);
            for (int row = first; row < first + 100; row++) {
                due("lock(1, " + row + ", 2)", x.lock(1, row, 2), 0);
                due("lock(2, " + row + ", 2)", x.lock(2, row, 2), 1);
            }
            for (int row = first; row < first + 100; row += 2) {
                due("clear(" + row + ")", x.clear(row), true);
            }
            for (int row = first; row < first + 100; row++) {
                due("locker(" + row + ", 0)", x.locker(row, 0), row % 2 == 0 ? 0 : 1);
            }
            due("the row before", x.locker(first - 1, 0), 0);
            due("the row behind", x.locker(first + 100, 0), 0);
        }
    }

    private static void rowsThatAreNot() {
        Set<Integer> none = outside(0, 1199);
        LockDesk x = start("lock: -1 if there is no such row; locker: 0 if there is no such row");
        x.number(0);
        for (int row : none) {
            due("lock(1, " + row + ", 1)", x.lock(1, row, 1), -1);
            due("lock(1, " + row + ", 2)", x.lock(1, row, 2), -1);
            due("locker(" + row + ", 0)", x.locker(row, 0), 0);
        }

        x = start("clear: false if there is no such row; locker: 0 if there is no such row");
        x.number(0);
        int[] locked = {0, 1, 7, 8, 175, 176, 687, 688, 943, 944, 1071, 1072, 1198, 1199};
        for (int row : locked) {
            due("lock", x.lock(1, row, 2), 0);
        }
        for (int row : none) {
            due("clear(" + row + ")", x.clear(row), false);
            due("locker(" + row + ", 0)", x.locker(row, 0), 0);
        }
        for (int row : locked) {
            due("locked as before", x.locker(row, 0), 1);
        }
    }

    private static void strengthsThatAreNot() {
        LockDesk x = start("lock: -1 if there is no such strength");
        x.number(0);
        due("lock for update", x.lock(1, 6, 2), 0);
        for (int strength : outside(1, 2)) {
            due("lock(1, 5, " + strength + ")", x.lock(1, 5, strength), -1);
            due("what it has locked", x.lock(1, 6, strength), -1);
        }
        due("locker", x.locker(5, 0), 0);
        due("locker", x.locker(6, 0), 1);
        due("shared is one", x.lock(1, 5, 1), 0);
        due("update is one", x.lock(1, 5, 2), 0);
    }

    private static void numbersThatWereNotGiven() {
        LockDesk x = start("over: false, lock: -1, await: -1 if the number was not given");
        x.number(0);
        x.number(5);
        x.number(0);
        for (int n : outside(1, 3)) {
            due("over(" + n + ")", x.over(n), false);
            due("lock(" + n + ", 0, 1)", x.lock(n, 0, 1), -1);
            due("await(1, " + n + ")", x.await(1, n), -1);
        }
        due("locker", x.locker(0, 0), 0);
        due("wish", x.wish(1), 0);
        due("the last one given", x.lock(3, 0, 2), 0);
        due("the last one given", x.await(1, 3), 1);
        due("the last one given", x.over(3), true);
        due("the first one given", x.lock(1, 0, 2), 0);
        due("the first one given", x.await(2, 1), 1);
        due("the first one given", x.over(1), true);
    }

    private static void numbersThatWereNotGivenYet() {
        LockDesk x = start("NUMBERS are 1, 2, .., given in this order");
        due("over(1)", x.over(1), false);
        due("lock(1, 0, 1)", x.lock(1, 0, 1), -1);
        due("await(1, 1)", x.await(1, 1), -1);
        for (int n = 1; n <= 60; n++) {
            due("number", x.number(n % 6), n);
            due("over of the next", x.over(n + 1), false);
            due("lock of the next", x.lock(n + 1, 0, 1), -1);
            due("await of the next", x.await((n + 2) % 6, n + 1), -1);
            due("await", x.await((n + 1) % 6, n), 1);
            due("it belongs to whom it was given", x.on((n + 1) % 6), 1 << n % 6);
            due("it runs until it is told to be over", x.over(n), true);
            due("next", x.next(), (n + 1) % 6);
        }
    }

    private static void placesOfLockers() {
        LockDesk x = start("locker: 0 if there is none");
        for (int s = 0; s <= 5; s++) {
            x.number(s);
            x.lock(s + 1, 40, 1);
        }
        for (int k = 0; k <= 5; k++) {
            due("locker(40, " + k + ")", x.locker(40, k), -(k + 1));
            due("a row without locks", x.locker(41, k), 0);
        }
        for (int k : outside(0, 5)) {
            due("locker(40, " + k + ")", x.locker(40, k), 0);
        }
        due("another row, for update", x.lock(3, 41, 2), 0);
        due("locker(41, 0)", x.locker(41, 0), 3);
        due("locker(41, 1)", x.locker(41, 1), 0);
    }

    private static void placesInTheOrder() {
        LockDesk x = start("waiting: -1 if there is none");
        x.number(0);
        for (int waits = 0; waits <= 5; waits++) {
            for (int k = 0; k <= 6; k++) {
                due(waits + " wait, waiting(" + k + ")", x.waiting(k), k < waits ? 5 - k : -1);
            }
            if (waits < 5) {
                due("await", x.await(5 - waits, 1), 1);
            }
        }
        due("over", x.over(1), true);
        due("number", x.number(1), 2);
        due("the sixth", x.await(0, 2), 1);
        for (int k = 0; k <= 5; k++) {
            due("all wait, waiting(" + k + ")", x.waiting(k), 5 - k);
        }
        for (int k : outside(0, 5)) {
            due("waiting(" + k + ")", x.waiting(k), -1);
        }
    }
}
