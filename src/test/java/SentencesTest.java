/**
 * A part for each sentence of the document that names a boundary case, by its words: what is empty or
 * full, first or last, once and once more, one's own or another's. That which is not there at all
 * (too small, too large, wrapped around) stands in BoundsTest, calls that are refused in
 * RefusedCallsTest.
 */
public final class SentencesTest {
    private static final String[] CONFLICTS =
        {"8", "78", "5678", "45678", "34678", "345678", "2345678", "12345678"};
    private static final Checks CHECKS = new Checks();

    public static void main(String[] args) {
        use();
        terms();
        numbers();
        asks();
        rows();
        awaits();
        nexts();
        levels();
        views();
        CHECKS.finish("SentencesTest");
    }

    private static void use() {
        callsToTheLast();
        locksToTheLast();
        objectsApart();
    }

    private static void terms() {
        betweenSessions();
        conflictsWithThoseThatWait();
        orderOfBeginning();
        allInTheOrder();
        beganEarlier();
        allThatWaitDid();
        waitsForADroppedTable();
        onTheOneWhoseTheNumberIs();
        ringsOfEachLength();
        ringsOfNumbersOfEachLength();
        ringsThroughTheQueue();
        noRings();
        runsNoMoreIsNoLock();
        conflictsOfLocks();
    }

    private static void numbers() {
        nothingAtFirst();
        rowsAtFirst();
        fourThousand();
        overTwice();
    }

    private static void asks() {
        heldBefore();
        waitsFromNowOn();
        ringIsNotBegun();
    }

    private static void rows() {
        nothingIsNotedThen();
        leastOfThese();
        ownLocksAreNoConflict();
    }

    private static void awaits() {
        runsNoMore();
        itsOwnNumber();
        awaitWhileWaiting();
    }

    private static void nexts() {
        noneNeedNotWait();
        firstInTheOrder();
        unlessThatWasDropped();
        cancelled();
    }

    private static void levels() {
        endFromEachLevel();
        releaseOfWhatIsWaitedFor();
        dropOfAll();
        dropOfNothing();
        clearOfOneRow();
    }

    private static void views() {
        levelThatIsHeld();
        sharedAlone();
        onNoneAnyMore();
        wishes();
    }

    private static void due(String call, int got, int want) {
        CHECKS.due(call, got, want);
    }

    private static void due(String call, boolean got, boolean want) {
        CHECKS.due(call, got, want);
    }

    private static LockDesk start(String part) {
        CHECKS.part(part);
        return new LockDesk();
    }

    private static boolean conflict(int mode, int other) {
        return CONFLICTS[mode - 1].indexOf((char) ('0' + other)) >= 0;
    }

    private static void callsToTheLast() {
        LockDesk x = start("An object is used for at most 512 calls: numbers");
        for (int call = 1; call <= 509; call++) {
            due("number", x.number(call % 6), call);
        }
        due("lock of the last", x.lock(509, 1199, 2), 0);
        due("await of the last", x.await(0, 509), 1);
        due("the 512th call", x.on(0), 1 << 509 % 6);

        x = start("An object is used for at most 512 calls: waits");
        due("ask", x.ask(0, 0, 0, 8), 0);
        for (int round = 0; round < 170; round++) {
            due("ask", x.ask(1, round % 8, 0, 1 + round % 8), 1);
            due("waiting", x.waiting(0), 1);
            due("cancel", x.cancel(1), true);
        }
        due("the 512th call", x.ask(2, 0, 0, 8), 1);
    }

    private static void locksToTheLast() {
        LockDesk x = start("An object is used for at most 512 calls: locks of many numbers");
        for (int n = 1; n <= 20; n++) {
            due("number", x.number(n % 6), n);
        }
        int locked = 0;
        for (int n = 20; n >= 1 && locked < 490; n--) {
            for (int row = 0; row < 25 && locked < 490; row++) {
                due("lock", x.lock(n, 25 * n + row, 1 + row % 2), 0);
                locked++;
            }
        }
        due("the 511th call", x.locker(25 * 20 + 24, 0), -20);
        due("the 512th call", x.locker(25 * 2 + 1, 0), 2);
    }

    private static void objectsApart() {
        LockDesk x = start("All memory is the class's own");
        LockDesk y = new LockDesk();
        due("number", x.number(0), 1);
        due("lock", x.lock(1, 0, 2), 0);
        due("ask", x.ask(0, 0, 0, 8), 0);
        due("await", x.await(1, 1), 1);
        due("another object's number", y.over(1), false);
        due("another object's row", y.locker(0, 0), 0);
        due("another object's table", y.ask(1, 0, 0, 8), 0);
        due("another object's order", y.waiting(0), -1);
        due("another object's first number", y.number(3), 1);
        due("still", x.holds(0, 0, 8), 0);
    }

    private static void betweenSessions() {
        for (int mode = 1; mode <= 8; mode++) {
            LockDesk x = start("They CONFLICT, between sessions: not with one's own mode " + mode);
            for (int other = 1; other <= 8; other++) {
                due("ask(" + mode + ")", x.ask(0, 0, other - 1, mode), 0);
                due("ask(" + other + ")", x.ask(0, 7, other - 1, other), 0);
                due("holds", x.holds(0, other - 1, mode), 0);
                due("holds", x.holds(0, other - 1, other), other == mode ? 0 : 7);
            }
        }
    }

    /** Session 0 holds the table in mode 8, so that whoever asks for it waits. */
    private static void conflictsWithThoseThatWait() {
        for (int waits = 1; waits <= 8; waits++) {
            for (int asks = 1; asks <= 8; asks++) {
                LockDesk x = start("waits for this table in such a mode: " + waits + ", " + asks);
                due("ask", x.ask(0, 0, 0, 8), 0);
                due("ask", x.ask(1, 0, 0, waits), 1);
                due("ask", x.ask(2, 0, 0, asks), 1);
                due("on", x.on(2), conflict(waits, asks) ? 3 : 1);
                due("end", x.end(0, 0), true);
                due("on", x.on(2), conflict(waits, asks) ? 2 : 0);
                due("on the first", x.on(1), 0);
                due("next", x.next(), 1);
                due("next", x.next(), conflict(waits, asks) ? -1 : 2);
            }
        }
    }

    private static void orderOfBeginning() {
        LockDesk x = start("in the ORDER in which they began to wait");
        due("number", x.number(0), 1);
        due("ask", x.ask(0, 0, 0, 8), 0);
        int[] began = {3, 1, 5, 2, 4};
        for (int s : began) {
            due("begins", s < 3 ? x.await(s, 1) : x.ask(s, 0, 0, 1), 1);
        }
        due("cancel of the first", x.cancel(3), true);
        due("it begins again", x.await(3, 1), 1);
        due("cancel of one between", x.cancel(2), true);
        due("it begins again", x.ask(2, 0, 0, 2), 1);
        due("cancel of the last", x.cancel(2), true);
        due("it begins again", x.await(2, 1), 1);
        int[] order = {1, 5, 4, 3, 2, -1};
        for (int k = 0; k < order.length; k++) {
            due("waiting(" + k + ")", x.waiting(k), order[k]);
        }
    }

    private static void allInTheOrder() {
        for (int first = 0; first <= 5; first++) {
            LockDesk x = start("Sessions that wait are in the ORDER: all six from " + first);
            int last = (first + 5) % 6;
            due("number", x.number(last), 1);
            due("number", x.number(first), 2);
            due("ask", x.ask(last, 0, 3, 8), 0);
            for (int i = 0; i < 5; i++) {
                int s = (first + i) % 6;
                due("begins", i % 2 == 0 ? x.ask(s, i, 3, 1) : x.await(s, 1), 1);
            }
            due("end", x.end(last, 0), true);
            due("the sixth", x.await(last, 2), 1);
            due("no seventh", x.ask(first, 0, 0, 1), -1);
            for (int k = 0; k <= 6; k++) {
                due("waiting(" + k + ")", x.waiting(k), k < 6 ? (first + k) % 6 : -1);
            }
            due("drop while all wait", x.drop(3), true);
            due("over while all wait", x.over(1), true);
            due("cancel of the last", x.cancel(last), true);
            due("it begins again", x.await(last, 2), 1);
            due("the sixth", x.waiting(5), last);
            for (int i = 0; i < 5; i++) {
                due("next", x.next(), (first + i) % 6 + (i % 2 == 0 ? 8 : 0));
            }
            due("the last must wait", x.next(), -1);
            due("over", x.over(2), true);
            due("next", x.next(), last);
            due("nobody waits", x.waiting(0), -1);
        }
    }

    private static void beganEarlier() {
        LockDesk x = start("and began earlier");
        due("ask", x.ask(0, 0, 6, 8), 0);
        for (int s = 1; s <= 5; s++) {
            due("ask", x.ask(s, 0, 6, 8), 1);
        }
        for (int s = 1; s <= 5; s++) {
            due("all before, none behind", x.on(s), (1 << s) - 1);
        }
        due("cancel", x.cancel(3), true);
        due("on", x.on(4), 1 + 2 + 4);
        due("it began again, last", x.ask(3, 0, 6, 8), 1);
        due("on", x.on(3), 1 + 2 + 4 + 16 + 32);
        due("on", x.on(5), 1 + 2 + 4 + 16);
        due("end", x.end(0, 0), true);
        int[] order = {1, 2, 4, 5, 3};
        for (int s : order) {
            due("next", x.next(), s);
            due("nobody behind", x.next(), -1);
            due("end", x.end(s, 0), true);
        }
    }

    private static void allThatWaitDid() {
        LockDesk x = start("all that wait did, for one that does not wait yet");
        due("ask", x.ask(5, 0, 1, 3), 0);
        due("ask", x.ask(4, 0, 1, 7), 1);
        due("end", x.end(5, 0), true);
        due("nobody holds it, but one waits", x.ask(0, 0, 1, 2), 1);
        due("on", x.on(0), 16);
        due("not in such a mode", x.ask(1, 0, 1, 1), 0);
        due("for another table", x.ask(2, 0, 0, 8), 0);
        due("next", x.next(), 4);
        due("on the holder now", x.on(0), 16);
        due("a holder asks past those that wait behind it", x.ask(4, 0, 1, 6), 0);
    }

    private static void waitsForADroppedTable() {
        LockDesk x = start("who waits for a table that was dropped is in nobody's way");
        due("ask", x.ask(0, 0, 5, 8), 0);
        due("ask", x.ask(1, 0, 5, 8), 1);
        due("ask", x.ask(2, 0, 5, 8), 1);
        due("drop", x.drop(5), true);
        due("on", x.on(2), 0);
        due("ask", x.ask(3, 0, 5, 8), 0);
        due("nor is a new holder in its way", x.on(1), 0);
        due("ask", x.ask(4, 0, 5, 8), 1);
        due("only the holder is in its way", x.on(4), 8);
        due("end", x.end(3, 0), true);
        due("on", x.on(4), 0);
        due("ask: one that began after the drop is", x.ask(3, 0, 5, 1), 1);
        due("on", x.on(3), 16);
        due("wish of the dropped", x.wish(1), 1058);
        due("wish of the new", x.wish(4), 58);
        due("drop once more", x.drop(5), true);
        due("wish", x.wish(4), 1058);
        due("on", x.on(3), 0);
        int[] order = {9, 10, 12, 11, -1};
        for (int answer : order) {
            due("next", x.next(), answer);
        }
    }

    private static void onTheOneWhoseTheNumberIs() {
        for (int owner = 0; owner <= 5; owner++) {
            LockDesk x = start("on the one whose the number is, if that runs: " + owner);
            due("number", x.number(5 - owner), 1);
            due("number", x.number(owner), 2);
            for (int s = 0; s <= 5; s++) {
                due("await", x.await(s, 2), s == owner ? 2 : 1);
                due("on", x.on(s), s == owner ? 0 : 1 << owner);
            }
            due("over of another", x.over(1), true);
            due("it runs", x.on(owner == 0 ? 1 : 0), 1 << owner);
            due("over", x.over(2), true);
            for (int s = 0; s <= 5; s++) {
                due("on none", x.on(s), 0);
            }
        }
    }

    /** Each of the first sessions holds a table and asks for that of the next; the last closes. */
    private static void ringsOfEachLength() {
        for (int length = 2; length <= 6; length++) {
            for (int turn = 0; turn < 6; turn++) {
                LockDesk x = start("in one or more steps: " + length + " tables from " + turn);
                for (int i = 0; i < length; i++) {
                    due("ask", x.ask((turn + i) % 6, 0, i, 4), 0);
                }
                for (int i = 0; i < length - 1; i++) {
                    due("ask", x.ask((turn + i) % 6, 0, i + 1, 4), 1);
                }
                int last = (turn + length - 1) % 6;
                due("ask that closes", x.ask(last, 0, 0, 4), 2);
                due("it is not begun", x.wish(last), 0);
                due("nobody stopped waiting", x.waiting(length - 2), (last + 5) % 6);
                due("end of one", x.end(turn, 0), true);
                due("no ring any more", x.ask(last, 0, 0, 4), 0);
            }
        }
    }

    private static void ringsOfNumbersOfEachLength() {
        for (int length = 1; length <= 6; length++) {
            for (int turn = 0; turn < 6; turn++) {
                LockDesk x = start("in one or more steps: " + length + " numbers from " + turn);
                for (int s = 0; s < 6; s++) {
                    due("number", x.number(s), s + 1);
                }
                for (int i = length - 1; i > 0; i--) {
                    due("await", x.await((turn + i) % 6, (turn + i - 1) % 6 + 1), 1);
                }
                int closing = (turn + length - 1) % 6 + 1;
                due("await that closes", x.await(turn, closing), 2);
                due("it is not begun", x.wish(turn), 0);
                due("on", x.on(turn), 0);
                due("over", x.over(closing), true);
                due("no ring any more", x.await(turn, closing), 0);
            }
        }
    }

    private static void ringsThroughTheQueue() {
        LockDesk x = start("A wait by which a session would wait on itself: behind one that waits");
        due("ask", x.ask(0, 0, 0, 2), 0);
        due("ask", x.ask(1, 0, 0, 7), 1);
        due("1 is in its way, and waits on it", x.ask(0, 0, 0, 3), 2);
        due("nothing that waits is in its way", x.ask(0, 0, 0, 1), 0);
        due("for 2, that is no ring", x.ask(2, 0, 0, 3), 1);
        due("on", x.on(2), 2);
        due("number", x.number(2), 1);
        due("0 on 2 on 1 on 0", x.await(0, 1), 2);
        due("cancel", x.cancel(1), true);
        due("nobody waits on 0", x.await(0, 1), 1);
        due("1 on 0 on 2", x.ask(1, 0, 0, 7), 1);
        due("3 is on all", x.ask(3, 0, 0, 8), 1);
        due("on", x.on(3), 1 + 2 + 4);

        x = start("A wait by which a session would wait on itself: through two in its way");
        due("ask", x.ask(0, 0, 0, 3), 0);
        due("ask", x.ask(1, 0, 1, 3), 0);
        due("ask", x.ask(2, 0, 1, 3), 0);
        due("number", x.number(0), 1);
        due("await", x.await(2, 1), 1);
        due("1 is free, 2 is not", x.ask(0, 0, 1, 5), 2);
        due("over", x.over(1), true);
        due("neither waits on 0", x.ask(0, 0, 1, 5), 1);
        due("on", x.on(0), 2 + 4);
    }

    private static void noRings() {
        LockDesk x = start("A RING: not through a wait for a dropped table");
        due("ask", x.ask(0, 0, 0, 8), 0);
        due("ask", x.ask(1, 0, 1, 8), 0);
        due("ask", x.ask(1, 0, 0, 1), 1);
        due("a ring", x.ask(0, 0, 1, 1), 2);
        due("drop", x.drop(0), true);
        due("none", x.ask(0, 0, 1, 1), 1);
        due("on", x.on(0), 2);
        due("on", x.on(1), 0);

        x = start("A RING: not through the holders of a dropped table");
        due("ask", x.ask(0, 0, 0, 8), 0);
        due("number", x.number(1), 1);
        due("ask", x.ask(1, 0, 0, 1), 1);
        due("drop", x.drop(0), true);
        due("ask", x.ask(0, 0, 0, 8), 0);
        due("1 need not wait, so 0 may wait on it", x.await(0, 1), 1);
        due("next", x.next(), 9);
        due("now 1 would", x.ask(1, 0, 0, 1), 2);

        x = start("A RING: not through a number that runs no more");
        due("number", x.number(0), 1);
        due("number", x.number(1), 2);
        due("await", x.await(1, 1), 1);
        due("a ring", x.await(0, 2), 2);
        due("over", x.over(1), true);
        due("none, though 1 was not told", x.await(0, 2), 1);
        due("wish", x.wish(1), 10001);

        x = start("A RING: not through rows");
        due("number", x.number(0), 1);
        due("number", x.number(1), 2);
        due("lock", x.lock(1, 0, 2), 0);
        due("lock", x.lock(2, 1, 2), 0);
        due("lock", x.lock(1, 1, 2), 2);
        due("lock", x.lock(2, 0, 2), 1);
        due("await", x.await(0, 2), 1);
        due("await", x.await(1, 1), 2);
    }

    private static void runsNoMoreIsNoLock() {
        LockDesk x = start("what a number locked that runs no more is no lock");
        for (int n = 1; n <= 4; n++) {
            due("number", x.number(n == 4 ? 1 : 0), n);
        }
        due("lock", x.lock(1, 0, 1), 0);
        due("lock", x.lock(2, 0, 2), 0);
        due("over", x.over(2), true);
        due("its lock is none, the other's is", x.locker(0, 0), -1);
        due("locker", x.locker(0, 1), 0);
        due("only the shared one is left", x.lock(4, 0, 1), 0);
        due("its session has not locked it for update any more", x.lock(3, 0, 2), 4);
        due("over", x.over(1), true);
        due("its session has not locked it any more", x.lock(3, 0, 1), 0);
        due("noted", x.locker(0, 0), -3);
        due("locker", x.locker(0, 1), -4);
        due("over", x.over(4), true);
        due("lock", x.lock(3, 0, 2), 0);
        due("over", x.over(3), true);
        due("none", x.locker(0, 0), 0);

        x = start("what a number locked that runs no more is no lock: the only one");
        for (int n = 1; n <= 30; n++) {
            due("number", x.number(n / 3 % 2), n);
            due("lock", x.lock(n, 8, 1 + n % 2), 0);
            due("it is noted", x.locker(8, 0), n % 2 == 0 ? -n : n);
            due("alone", x.locker(8, 1), 0);
            due("over", x.over(n), true);
            due("none", x.locker(8, 0), 0);
        }
    }

    private static void conflictsOfLocks() {
        for (int first = 1; first <= 2; first++) {
            for (int second = 1; second <= 2; second++) {
                LockDesk x = start("conflict if one is for update: " + first + ", " + second);
                due("number", x.number(0), 1);
                due("number", x.number(5), 2);
                due("number", x.number(0), 3);
                due("lock", x.lock(1, 600, first), 0);
                due("of different sessions", x.lock(2, 600, second), first + second > 2 ? 1 : 0);
                due("of another row", x.lock(2, 601, second), 0);
                due("over", x.over(2), true);
                due("of one session", x.lock(3, 600, second), 0);
                due("noted if it is more", x.locker(600, 1), second > first ? 3 : 0);
            }
        }
    }

    private static void nothingAtFirst() {
        LockDesk x = start("Nothing is held, nobody waits, no numbers");
        for (int s = 0; s <= 5; s++) {
            for (int table = 0; table <= 7; table++) {
                for (int mode = 1; mode <= 8; mode++) {
                    due("holds", x.holds(s, table, mode), -1);
                }
            }
            due("wish", x.wish(s), 0);
            due("on", x.on(s), 0);
            due("waiting", x.waiting(s), -1);
            due("cancel", x.cancel(s), false);
        }
        due("next", x.next(), -1);
        for (int n = 0; n <= 6; n++) {
            due("over", x.over(n), false);
            due("lock", x.lock(n, 0, 1), -1);
            due("await", x.await(0, n), -1);
        }
        due("the first number", x.number(0), 1);
    }

    private static void rowsAtFirst() {
        for (int first = 0; first < 1200; first += 400) {
            LockDesk x = start("Nothing is held: rows from " + first);
            for (int row = first; row < first + 400; row++) {
                due("locker(" + row + ", 0)", x.locker(row, 0), 0);
            }
        }
    }

    /** Beyond 512 calls, as there is no other way to 4000 numbers. */
    private static void fourThousand() {
        LockDesk x = start("-1 if there are 4000");
        for (int n = 1; n <= 3999; n++) {
            x.number(0);
        }
        due("4000 not given yet", x.over(4000), false);
        due("the 4000th", x.number(5), 4000);
        for (int s = 0; s <= 5; s++) {
            due("there are 4000", x.number(s), -1);
        }
        due("it runs", x.await(0, 4000), 1);
        due("wish", x.wish(0), 14000);
        due("whose it is", x.on(0), 32);
        due("lock", x.lock(4000, 0, 2), 0);
        due("locker", x.locker(0, 0), 4000);
        due("4001 was not given", x.await(1, 4001), -1);
        due("over", x.over(4000), true);
        due("over", x.over(1), true);
        due("there are 4000, though not all run", x.number(0), -1);
    }

    private static void overTwice() {
        LockDesk x = start("over: false if it is over");
        for (int n = 1; n <= 3; n++) {
            due("number", x.number(0), n);
        }
        due("over of one between", x.over(2), true);
        due("over", x.over(2), false);
        due("over of the first", x.over(1), true);
        due("over of the last", x.over(3), true);
        for (int n = 1; n <= 3; n++) {
            due("over", x.over(n), false);
            due("lock: it does not run", x.lock(n, 0, 1), -1);
            due("await: it was given", x.await(1, n), 0);
        }
        due("an old number is not given again", x.number(0), 4);
    }

    private static void heldBefore() {
        LockDesk x = start("also if it did before, at whatever level: that stays");
        due("ask", x.ask(0, 3, 0, 6), 0);
        for (int level = 0; level <= 7; level++) {
            due("ask", x.ask(0, level, 0, 6), 0);
            due("that stays", x.holds(0, 0, 6), 3);
        }
        due("ask", x.ask(1, 0, 0, 8), 1);
        due("ask with one in its way", x.ask(0, 7, 0, 6), 0);
        due("that stays", x.holds(0, 0, 6), 3);
        due("it does not wait", x.wish(0), 0);
        due("another mode was not held", x.ask(0, 7, 0, 5), 2);
        due("end", x.end(0, 3), true);
        due("what was given up is not held before", x.ask(0, 7, 0, 6), 1);
        due("next", x.next(), 1);
        due("cancel", x.cancel(0), true);
        due("drop", x.drop(0), true);
        due("nor what was dropped", x.ask(1, 5, 0, 8), 0);
        due("holds", x.holds(1, 0, 8), 5);
    }

    private static void waitsFromNowOn() {
        LockDesk x = start("1 it waits from now on");
        due("ask", x.ask(0, 0, 0, 1), 0);
        due("ask", x.ask(1, 7, 0, 8), 1);
        due("it does not hold it", x.holds(1, 0, 8), -1);
        due("wish", x.wish(1), 8);
        due("on", x.on(1), 1);
        due("waiting", x.waiting(0), 1);
        due("refused: it waits", x.ask(1, 0, 1, 1), -1);
        due("end", x.end(0, 0), true);
        due("refused until it is told", x.ask(1, 0, 1, 1), -1);
        due("next", x.next(), 1);
        due("no more", x.ask(1, 0, 1, 1), 0);
    }

    private static void ringIsNotBegun() {
        LockDesk x = start("2 that would be a ring: nothing was done");
        due("ask", x.ask(0, 0, 0, 8), 0);
        due("ask", x.ask(1, 0, 1, 8), 0);
        due("ask", x.ask(0, 0, 1, 1), 1);
        due("a ring", x.ask(1, 5, 0, 1), 2);
        due("holds", x.holds(1, 0, 1), -1);
        due("wish", x.wish(1), 0);
        due("on", x.on(1), 0);
        due("waiting", x.waiting(1), -1);
        due("cancel", x.cancel(1), false);
        due("it can ask", x.ask(1, 0, 2, 8), 0);
        due("the other waits as before", x.on(0), 2);
        due("end", x.end(1, 0), true);
        due("next", x.next(), 0);
        due("next", x.next(), -1);
    }

    private static void nothingIsNotedThen() {
        LockDesk x = start("also, and nothing is noted then, if a running number of its session has");
        for (int n = 1; n <= 5; n++) {
            due("number", x.number(2), n);
        }
        due("number", x.number(3), 6);
        due("shared", x.lock(3, 0, 1), 0);
        due("so, by a smaller one", x.lock(1, 0, 1), 0);
        due("so, by a greater one", x.lock(5, 0, 1), 0);
        due("so, by itself", x.lock(3, 0, 1), 0);
        due("locker", x.locker(0, 0), -3);
        due("locker", x.locker(0, 1), 0);
        due("not for update", x.lock(2, 0, 2), 0);
        due("noted", x.locker(0, 0), 2);
        due("as before", x.locker(0, 1), -3);
        due("locker", x.locker(0, 2), 0);
        due("for update", x.lock(3, 0, 2), 0);
        due("not noted, it stays shared", x.locker(0, 1), -3);
        due("for update", x.lock(1, 0, 1), 0);
        due("not noted", x.locker(0, 2), 0);
        due("over", x.over(2), true);
        due("only the shared one is left", x.locker(0, 0), -3);
        due("another session may share it", x.lock(6, 0, 1), 0);
        due("not so: the others are in conflict", x.lock(3, 0, 2), 6);
        due("so", x.lock(1, 0, 1), 0);
        due("over", x.over(3), true);
        due("only the other's", x.locker(0, 0), -6);
    }

    private static void leastOfThese() {
        LockDesk x = start("if locks of others are in conflict, the least number of these");
        for (int n = 1; n <= 6; n++) {
            due("number", x.number(6 - n), n);
        }
        for (int n = 6; n >= 2; n--) {
            due("shared", x.lock(n, 77, 1), 0);
            due("the least", x.lock(1, 77, 2), n);
            due("nothing was done", x.locker(77, 0), -n);
        }
        due("its own is not of these", x.lock(2, 77, 2), 3);
        due("it stays shared", x.locker(77, 0), -2);
        due("over", x.over(2), true);
        due("the least that runs", x.lock(1, 77, 2), 3);
        due("clear", x.clear(77), true);
        due("none", x.lock(1, 77, 2), 0);
        due("itself", x.lock(1, 77, 2), 0);
        due("locker", x.locker(77, 0), 1);
    }

    private static void ownLocksAreNoConflict() {
        LockDesk x = start("locks of others");
        for (int n = 1; n <= 6; n++) {
            due("number", x.number(4), n);
        }
        for (int n = 6; n >= 1; n--) {
            due("lock", x.lock(n, n, 2), 0);
        }
        for (int n = 1; n <= 6; n++) {
            due("of its own session", x.lock(7 - n, n, 2), 0);
            due("locker", x.locker(n, 0), n);
            due("locker", x.locker(n, 1), 0);
        }
    }

    private static void runsNoMore() {
        LockDesk x = start("await: 0 if the number runs no more");
        due("number", x.number(0), 1);
        due("number", x.number(0), 2);
        due("await", x.await(1, 1), 1);
        due("over", x.over(1), true);
        due("0", x.await(2, 1), 0);
        due("its own", x.await(0, 1), 0);
        due("it does not wait", x.wish(2), 0);
        due("waiting", x.waiting(1), -1);
        due("another of the session runs", x.await(2, 2), 1);
    }

    private static void itsOwnNumber() {
        LockDesk x = start("2 that would be a ring (its own number is one, too)");
        for (int s = 0; s <= 5; s++) {
            due("number", x.number(s), 2 * s + 1);
            due("number", x.number(s), 2 * s + 2);
            due("its own", x.await(s, 2 * s + 1), 2);
            due("its own", x.await(s, 2 * s + 2), 2);
            due("it does not wait", x.wish(s), 0);
            due("waiting", x.waiting(0), -1);
        }
    }

    private static void awaitWhileWaiting() {
        LockDesk x = start("await: -1 if the session waits");
        due("number", x.number(0), 1);
        due("number", x.number(1), 2);
        due("number", x.number(0), 3);
        due("over", x.over(3), true);
        due("await", x.await(1, 1), 1);
        due("for the same", x.await(1, 1), -1);
        due("for one that is over", x.await(1, 3), -1);
        due("for its own", x.await(1, 2), -1);
        due("wish", x.wish(1), 10001);
        due("waiting", x.waiting(1), -1);
        due("ask", x.ask(0, 0, 0, 8), 0);
        due("ask", x.ask(2, 0, 0, 8), 1);
        due("while it waits for a table", x.await(2, 1), -1);
        due("drop", x.drop(0), true);
        due("that was dropped", x.await(2, 1), -1);
        due("wish", x.wish(2), 1008);
    }

    private static void noneNeedNotWait() {
        LockDesk x = start("next: -1 if there is none");
        due("nobody waits", x.next(), -1);
        due("number", x.number(0), 1);
        due("ask", x.ask(0, 0, 0, 8), 0);
        due("await", x.await(1, 1), 1);
        due("ask", x.ask(2, 0, 0, 8), 1);
        due("all must", x.next(), -1);
        due("all must", x.next(), -1);
        due("waiting", x.waiting(0), 1);
        due("waiting", x.waiting(1), 2);
        due("over", x.over(1), true);
        due("next", x.next(), 1);
        due("only once", x.next(), -1);
        due("drop", x.drop(0), true);
        due("next", x.next(), 10);
        due("only once", x.next(), -1);
    }

    private static void firstInTheOrder() {
        LockDesk x = start("The first in the order that need not wait any more");
        due("number", x.number(0), 1);
        due("ask", x.ask(0, 0, 0, 8), 0);
        due("ask", x.ask(0, 0, 1, 8), 0);
        due("ask", x.ask(0, 1, 2, 8), 0);
        due("waits for a table", x.ask(5, 2, 2, 3), 1);
        due("for one to be dropped", x.ask(4, 0, 1, 8), 1);
        due("for a number", x.await(3, 1), 1);
        due("for a table", x.ask(2, 4, 2, 2), 1);
        due("for one that stays", x.ask(1, 0, 0, 1), 1);
        due("the last of the causes first", x.end(0, 1), true);
        due("over", x.over(1), true);
        due("drop", x.drop(1), true);
        int[] order = {5, 12, 3, 2, -1};
        for (int answer : order) {
            due("next", x.next(), answer);
        }
        due("holds at the level", x.holds(5, 2, 3), 2);
        due("holds at the level", x.holds(2, 2, 2), 4);
        due("the last waits", x.waiting(0), 1);
        due("end", x.end(0, 0), true);
        due("next", x.next(), 1);
    }

    private static void unlessThatWasDropped() {
        for (int s = 0; s <= 5; s++) {
            LockDesk x = start("The session, + 8 if its table was dropped: " + s);
            int holder = (s + 1) % 6;
            due("ask", x.ask(holder, 0, 3, 8), 0);
            due("ask", x.ask(s, 0, 3, 1), 1);
            due("end", x.end(holder, 0), true);
            due("drop of what it could have had", x.drop(3), true);
            due("next", x.next(), s + 8);
            due("it waits no more", x.wish(s), 0);
            due("it does not hold it", x.holds(s, 3, 1), -1);
            due("ask", x.ask(holder, 0, 3, 8), 0);
            due("ask", x.ask(s, 0, 3, 1), 1);
            due("end", x.end(holder, 0), true);
            due("not dropped any more", x.next(), s);
            due("it holds it", x.holds(s, 3, 1), 0);
        }
    }

    private static void cancelled() {
        LockDesk x = start("A session waits no more, and holds nothing more by that");
        due("nobody waits", x.cancel(1), false);
        due("ask", x.ask(0, 0, 0, 8), 0);
        due("ask", x.ask(1, 0, 0, 1), 1);
        due("end", x.end(0, 0), true);
        due("cancel of what it could have", x.cancel(1), true);
        due("holds", x.holds(1, 0, 1), -1);
        due("next", x.next(), -1);
        due("once", x.cancel(1), false);
        due("ask", x.ask(0, 0, 0, 8), 0);
        due("ask", x.ask(1, 0, 0, 1), 1);
        due("drop", x.drop(0), true);
        due("cancel of what was dropped", x.cancel(1), true);
        due("next", x.next(), -1);
        due("number", x.number(0), 1);
        due("await", x.await(1, 1), 1);
        due("over", x.over(1), true);
        due("cancel of what is over", x.cancel(1), true);
        due("next", x.next(), -1);
        due("what it holds it keeps", x.ask(1, 6, 4, 1), 0);
        due("ask", x.ask(0, 0, 4, 2), 0);
        due("ask", x.ask(1, 6, 4, 7), 1);
        due("cancel", x.cancel(1), true);
        due("holds", x.holds(1, 4, 1), 6);
    }

    private static void endFromEachLevel() {
        LockDesk x = start("at a level and at those above is not held any more");
        for (int level = 0; level <= 7; level++) {
            due("ask", x.ask(2, level, 7 - level, 1 + level), 0);
        }
        for (int level = 7; level >= 0; level--) {
            due("end", x.end(2, level), true);
            due("at it", x.holds(2, 7 - level, 1 + level), -1);
            due("below", x.holds(2, 8 - level, level), level > 0 ? level - 1 : -1);
            due("of nothing", x.end(2, level), true);
        }
        due("ask", x.ask(2, 7, 0, 8), 0);
        due("ask", x.ask(3, 0, 0, 1), 1);
        due("ask", x.ask(2, 0, 1, 8), 0);
        due("end", x.end(2, 7), true);
        due("others need not wait for it", x.next(), 3);
        due("what is below is held", x.ask(3, 0, 1, 1), 1);
        due("one that waits holds what it holds", x.end(3, 1), true);
        due("holds", x.holds(3, 0, 1), 0);
        due("end of one that waits", x.end(3, 0), true);
        due("holds", x.holds(3, 0, 1), -1);
        due("it waits", x.wish(3), 11);
    }

    private static void releaseOfWhatIsWaitedFor() {
        for (int asked = 0; asked <= 7; asked++) {
            for (int level = 0; level <= 7; level++) {
                LockDesk x = start("What it asked for at such a level, too: " + asked + ", " + level);
                due("ask", x.ask(0, 7, 0, 8), 0);
                due("ask", x.ask(1, asked, 0, 1), 1);
                due("release of another", x.release(0, 1), true);
                due("release, false for level 0", x.release(1, level), level > 0);
                due("end", x.end(0, 0), true);
                due("next", x.next(), 1);
                int lowered = level > 0 && asked >= level ? level - 1 : asked;
                due("holds", x.holds(1, 0, 1), lowered);
                due("the next wait is at its own level", x.ask(2, 0, 0, 1), 0);
                due("ask", x.ask(1, asked, 0, 8), 1);
                due("end", x.end(2, 0), true);
                due("next", x.next(), 1);
                due("holds", x.holds(1, 0, 8), asked);
            }
        }
    }

    private static void dropOfAll() {
        LockDesk x = start("nobody holds it any more, and those who wait for it need not any more");
        for (int s = 0; s <= 2; s++) {
            due("ask", x.ask(s, s, 4, 1), 0);
            due("ask", x.ask(s, s, 4, 2), 0);
            due("ask", x.ask(s, s, 5, 1), 0);
        }
        for (int s = 3; s <= 5; s++) {
            due("ask", x.ask(s, 0, 4, 8), 1);
        }
        due("drop", x.drop(4), true);
        for (int s = 0; s <= 2; s++) {
            due("holds", x.holds(s, 4, 1), -1);
            due("holds", x.holds(s, 4, 2), -1);
            due("another table", x.holds(s, 5, 1), s);
        }
        for (int s = 3; s <= 5; s++) {
            due("they wait until they are told", x.wish(s), 1048);
            due("on none", x.on(s), 0);
        }
        for (int s = 3; s <= 5; s++) {
            due("next", x.next(), s + 8);
        }
        due("next", x.next(), -1);
    }

    private static void dropOfNothing() {
        LockDesk x = start("drop: true, also for what nobody holds");
        for (int table = 0; table <= 7; table++) {
            due("drop", x.drop(table), true);
            due("drop again", x.drop(table), true);
            due("it can be held", x.ask(0, 0, table, 8), 0);
        }
        due("next", x.next(), -1);
    }

    private static void clearOfOneRow() {
        LockDesk x = start("A row has no locks any more");
        for (int n = 1; n <= 6; n++) {
            due("number", x.number(n - 1), n);
        }
        due("clear of an empty row", x.clear(0), true);
        for (int row = 0; row <= 2; row++) {
            for (int n = 1; n <= 6; n++) {
                due("lock", x.lock(n, row, 1), 0);
            }
        }
        due("clear", x.clear(1), true);
        for (int k = 0; k <= 6; k++) {
            due("before it", x.locker(0, k), k < 6 ? -(k + 1) : 0);
            due("it", x.locker(1, k), 0);
            due("behind it", x.locker(2, k), k < 6 ? -(k + 1) : 0);
        }
        due("clear again", x.clear(1), true);
        due("the numbers run", x.lock(6, 1, 2), 0);
        due("locker", x.locker(1, 0), 6);
        due("await", x.await(0, 6), 1);
        due("clear", x.clear(1), true);
        due("who waits for the number waits on", x.next(), -1);
    }

    private static void levelThatIsHeld() {
        for (int level = 0; level <= 7; level++) {
            LockDesk x = start("At which level a session holds a table in a mode: " + level);
            due("ask", x.ask(5, level, 7, 8), 0);
            due("ask", x.ask(0, level, 0, 1), 0);
            due("holds", x.holds(5, 7, 8), level);
            due("holds", x.holds(0, 0, 1), level);
            due("another session", x.holds(4, 7, 8), -1);
            due("another table", x.holds(5, 6, 8), -1);
            due("another mode", x.holds(5, 7, 7), -1);
            due("ask", x.ask(1, level, 7, 8), 1);
            due("what is waited for is not held", x.holds(1, 7, 8), -1);
        }
    }

    private static void sharedAlone() {
        LockDesk x = start("locker: below 0 if it is shared alone");
        due("number", x.number(0), 1);
        due("number", x.number(0), 2);
        due("number", x.number(1), 3);
        due("shared", x.lock(1, 0, 1), 0);
        due("locker", x.locker(0, 0), -1);
        due("update, too", x.lock(1, 0, 2), 0);
        due("not shared alone", x.locker(0, 0), 1);
        due("one lock", x.locker(0, 1), 0);
        due("shared", x.lock(1, 1, 1), 0);
        due("update of another of its session", x.lock(2, 1, 2), 0);
        due("by size", x.locker(1, 0), -1);
        due("by size", x.locker(1, 1), 2);
        due("another session", x.lock(3, 2, 1), 0);
        due("not the first of its row by rank", x.lock(1, 2, 1), 0);
        due("by size, not by time", x.locker(2, 0), -1);
        due("by size, not by time", x.locker(2, 1), -3);
    }

    private static void onNoneAnyMore() {
        LockDesk x = start("on: 0 if it does not wait, or on none any more");
        due("it does not wait", x.on(1), 0);
        due("ask", x.ask(0, 0, 0, 8), 0);
        due("who holds does not wait", x.on(0), 0);
        due("ask", x.ask(1, 0, 0, 8), 1);
        due("on", x.on(1), 1);
        due("end", x.end(0, 0), true);
        due("on none any more", x.on(1), 0);
        due("though it waits", x.wish(1), 8);
        due("one that asks later is not before it", x.ask(0, 0, 0, 1), 1);
        due("on none any more", x.on(1), 0);
        due("on", x.on(0), 2);
        due("next", x.next(), 1);
        due("it does not wait", x.on(1), 0);
        due("cancel", x.cancel(0), true);
        due("it does not wait", x.on(0), 0);

        x = start("the sum of 1 << t for each");
        for (int s = 0; s <= 4; s++) {
            due("ask", x.ask(s, 0, 0, 1), 0);
            due("two modes count once", x.ask(s, 0, 0, 2), 0);
        }
        due("ask", x.ask(5, 0, 0, 8), 1);
        due("all others", x.on(5), 31);
        due("ask", x.ask(4, 0, 0, 4), 2);
        for (int s = 0; s <= 4; s++) {
            due("end", x.end(s, 0), true);
            due("one less", x.on(5), 31 - ((1 << s + 1) - 1));
        }

        x = start("the sum of 1 << t: who holds and waits counts once");
        due("ask", x.ask(0, 0, 0, 5), 0);
        due("ask", x.ask(1, 0, 0, 5), 0);
        due("ask", x.ask(0, 0, 0, 6), 1);
        due("ask", x.ask(2, 0, 0, 8), 1);
        due("on", x.on(2), 3);
        due("end", x.end(0, 0), true);
        due("it still waits", x.on(2), 3);
    }

    private static void wishes() {
        for (int table = 0; table <= 7; table++) {
            for (int mode = 1; mode <= 8; mode++) {
                LockDesk x = start("10 * table + mode, + 1000 if that was dropped: " + table + mode);
                due("ask", x.ask(0, 0, table, 8), 0);
                due("0 it does not", x.wish(1), 0);
                due("ask", x.ask(1, 0, table, mode), 1);
                due("wish", x.wish(1), 10 * table + mode);
                due("another drop", x.drop((table + 1) % 8), true);
                due("wish", x.wish(1), 10 * table + mode);
                due("drop", x.drop(table), true);
                due("dropped", x.wish(1), 1000 + 10 * table + mode);
                due("number", x.number(0), 1);
                due("next", x.next(), 9);
                due("0 it does not", x.wish(1), 0);
                due("await", x.await(1, 1), 1);
                due("10000 + number", x.wish(1), 10001);
                due("drop", x.drop(table), true);
                due("a number is not dropped", x.wish(1), 10001);
                due("cancel", x.cancel(1), true);
                due("ask", x.ask(0, 0, table, 8), 0);
                due("ask", x.ask(1, 0, table, mode), 1);
                due("neither a number nor dropped", x.wish(1), 10 * table + mode);
            }
        }
    }
}
