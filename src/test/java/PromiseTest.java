/** A part for each promise: ordinary inputs, the edges that the document names, wrong inputs. */
public final class PromiseTest {
    private static final int[] WRONG = {-1, Integer.MIN_VALUE, Integer.MAX_VALUE};
    private static final Checks CHECKS = new Checks();

    public static void main(String[] args) {
        newObject();
        numberIsTheNext();
        numberHasAnEnd();
        overOnce();
        overFreesRows();
        conflictsOfModes();
        askOfOneself();
        askInTheQueue();
        askBehindADroppedWait();
        askClosesNoRing();
        askRefuses();
        lockSharedAndUpdate();
        lockTellsTheLeast();
        lockWithinASession();
        lockOfManyRows();
        lockRefuses();
        awaitANumber();
        awaitClosesNoRing();
        awaitRefuses();
        nextTakesTheFirst();
        nextAfterADrop();
        cancelAWait();
        endFromALevel();
        releaseFromALevel();
        releaseOfAWait();
        dropATable();
        clearARow();
        holdsTellsTheLevel();
        lockerBySize();
        onTellsSessions();
        waitingInOrder();
        wishTellsAll();
        CHECKS.finish("PromiseTest");
    }

    private static void due(String call, int got, int want) {
        CHECKS.due(call, got, want);
    }

    private static void due(String call, boolean got, boolean want) {
        CHECKS.due(call, got, want);
    }

    private static LockDesk start(String part) {
        CHECKS.part(part);
        return new LockDesk();
    }

    private static void newObject() {
        LockDesk x = start("1, a new object");
        for (int s = 0; s < 6; s++) {
            due("wish", x.wish(s), 0);
            due("on", x.on(s), 0);
            due("cancel", x.cancel(s), false);
            for (int mode = 1; mode <= 8; mode++) {
                due("holds", x.holds(s, s, mode), -1);
            }
        }
        due("waiting(0)", x.waiting(0), -1);
        due("next", x.next(), -1);
        due("over(1)", x.over(1), false);
        due("await(0, 1)", x.await(0, 1), -1);
        due("locker(0, 0)", x.locker(0, 0), 0);
        due("locker(1199, 0)", x.locker(1199, 0), 0);
        LockDesk y = new LockDesk();
        due("ask", y.ask(0, 0, 0, 8), 0);
        due("holds of another object", x.holds(0, 0, 8), -1);
    }

    private static void numberIsTheNext() {
        LockDesk x = start("2, number");
        due("number(5)", x.number(5), 1);
        due("number(0)", x.number(0), 2);
        due("number(6)", x.number(6), -1);
        for (int wrong : WRONG) {
            due("number of no session", x.number(wrong), -1);
        }
        due("number(0)", x.number(0), 3);
        due("over(3)", x.over(3), true);
        due("number(0) after over", x.number(0), 4);
        due("await(1, 1)", x.await(1, 1), 1);
        due("on(1): whose it is", x.on(1), 1 << 5);
        due("number(1) while it waits", x.number(1), 5);
    }

    private static void numberHasAnEnd() {
        LockDesk x = start("2, 4000 numbers");
        for (int n = 1; n <= 4000; n++) {
            due("number", x.number(n % 6), n);
        }
        due("the 4001st", x.number(0), -1);
        due("over(4000)", x.over(4000), true);
        due("over(4001)", x.over(4001), false);
        due("number after over", x.number(0), -1);
    }

    private static void overOnce() {
        LockDesk x = start("3, over");
        due("number", x.number(2), 1);
        due("over(0)", x.over(0), false);
        due("over(2)", x.over(2), false);
        for (int wrong : WRONG) {
            due("over of none", x.over(wrong), false);
        }
        due("over(1)", x.over(1), true);
        due("over(1) again", x.over(1), false);
        due("await(2, 1), its own and over", x.await(2, 1), 0);
    }

    private static void overFreesRows() {
        LockDesk x = start("3, over of a number with locks");
        due("number", x.number(0), 1);
        due("number", x.number(0), 2);
        due("number", x.number(1), 3);
        due("lock", x.lock(1, 10, 1), 0);
        due("lock", x.lock(1, 11, 2), 0);
        due("lock", x.lock(2, 12, 2), 0);
        due("ask", x.ask(1, 0, 0, 8), 0);
        due("ask", x.ask(0, 0, 0, 1), 1);
        due("over(1) while its session waits", x.over(1), true);
        due("locker(10, 0)", x.locker(10, 0), 0);
        due("locker(11, 0)", x.locker(11, 0), 0);
        due("locker(12, 0)", x.locker(12, 0), 2);
        due("lock", x.lock(3, 11, 2), 0);
        due("lock", x.lock(3, 12, 1), 2);
        due("lock(1) runs no more", x.lock(1, 10, 1), -1);
    }

    /** Both ways: what one session holds against what another asks for. */
    private static void conflictsOfModes() {
        String[] conflicts = {"8", "78", "5678", "45678", "34678", "345678", "2345678", "12345678"};
        for (int held = 1; held <= 8; held++) {
            for (int asked = 1; asked <= 8; asked++) {
                LockDesk x = start("4, mode " + asked + " against " + held);
                boolean conflict = conflicts[held - 1].indexOf((char) ('0' + asked)) >= 0;
                due("ask", x.ask(3, 0, 7, held), 0);
                due("ask", x.ask(4, 0, 7, asked), conflict ? 1 : 0);
                due("holds", x.holds(4, 7, asked), conflict ? -1 : 0);
                due("ask of another table", x.ask(5, 0, 6, asked), 0);
            }
        }
    }

    private static void askOfOneself() {
        LockDesk x = start("4, a session is not in its own way");
        for (int mode = 1; mode <= 8; mode++) {
            due("ask", x.ask(0, mode - 1, 0, mode), 0);
        }
        due("ask again, higher", x.ask(0, 7, 0, 3), 0);
        due("holds", x.holds(0, 0, 3), 2);
        due("ask again, lower", x.ask(0, 0, 0, 3), 0);
        due("holds", x.holds(0, 0, 3), 2);
        due("ask", x.ask(1, 0, 0, 8), 1);
        due("ask what is held, past one that waits", x.ask(0, 0, 0, 1), 0);
        due("holds", x.holds(0, 0, 1), 0);
    }

    private static void askInTheQueue() {
        LockDesk x = start("4, the queue");
        due("ask", x.ask(0, 0, 2, 3), 0);
        due("ask", x.ask(1, 0, 2, 5), 1);
        due("ask: one that waits is in the way", x.ask(2, 0, 2, 3), 1);
        due("on", x.on(2), 2);
        due("ask: not in its way", x.ask(3, 0, 2, 2), 0);
        due("ask: another table", x.ask(4, 0, 3, 8), 0);
        due("ask: a holder behind one that waits on it", x.ask(0, 0, 2, 6), 2);
        due("ask: a holder past those that wait", x.ask(0, 0, 2, 1), 0);
        due("end", x.end(0, 0), true);
        due("next", x.next(), 1);
        due("next", x.next(), -1);
        due("on", x.on(2), 2);
    }

    private static void askBehindADroppedWait() {
        LockDesk x = start("4, one that waits for a dropped table");
        due("ask", x.ask(0, 0, 2, 8), 0);
        due("ask", x.ask(1, 0, 2, 8), 1);
        due("drop", x.drop(2), true);
        due("ask: it is in nobody's way", x.ask(2, 1, 2, 8), 0);
        due("ask", x.ask(3, 0, 2, 1), 1);
        due("on", x.on(3), 4);
        due("on: of the dropped", x.on(1), 0);
        due("ask of who waits for it", x.ask(1, 0, 5, 1), -1);
        due("number", x.number(1), 1);
        due("await(2): the dropped waits on nobody", x.await(2, 1), 1);
        due("next", x.next(), 9);
        due("holds", x.holds(1, 2, 8), -1);
        due("holds", x.holds(2, 2, 8), 1);

        x = start("4, what one that waits for a dropped table holds");
        due("ask", x.ask(0, 0, 2, 8), 0);
        due("ask", x.ask(1, 0, 3, 8), 0);
        due("ask", x.ask(1, 0, 2, 8), 1);
        due("drop", x.drop(2), true);
        due("ask: its other table is in the way", x.ask(4, 0, 3, 1), 1);
        due("on", x.on(4), 2);
    }

    private static void askClosesNoRing() {
        LockDesk x = start("4, rings");
        for (int s = 0; s < 6; s++) {
            due("ask", x.ask(s, 0, s, 4), 0);
        }
        for (int s = 0; s < 5; s++) {
            due("ask", x.ask(s, 0, s + 1, 4), 1);
        }
        due("ask that closes six", x.ask(5, 3, 0, 4), 2);
        due("wish: nothing was done", x.wish(5), 0);
        due("holds", x.holds(5, 0, 4), -1);
        due("waiting", x.waiting(5), -1);
        due("ask through one that waits", x.ask(5, 3, 5, 8), 2);
        due("cancel", x.cancel(2), true);
        due("ask", x.ask(5, 3, 0, 4), 1);
        due("ask", x.ask(2, 0, 3, 1), 0);
        due("ask", x.ask(2, 0, 3, 4), 2);

        x = start("4, a ring through a number and the queue");
        due("number", x.number(0), 1);
        due("ask", x.ask(0, 0, 0, 2), 0);
        due("await", x.await(1, 1), 1);
        due("ask", x.ask(1, 0, 1, 1), -1);
        due("cancel", x.cancel(1), true);
        due("ask", x.ask(1, 0, 1, 7), 0);
        due("await", x.await(1, 1), 1);
        due("ask", x.ask(2, 0, 1, 3), 1);
        due("ask", x.ask(0, 0, 1, 3), 2);
        due("over", x.over(1), true);
        due("ask", x.ask(0, 0, 1, 3), 1);
        due("on", x.on(0), 2);
    }

    private static void askRefuses() {
        LockDesk x = start("4, refused");
        due("session", x.ask(6, 0, 0, 1), -1);
        due("level", x.ask(0, 8, 0, 1), -1);
        due("table", x.ask(0, 0, 8, 1), -1);
        due("mode", x.ask(0, 0, 0, 9), -1);
        due("mode", x.ask(0, 0, 0, 0), -1);
        for (int wrong : WRONG) {
            due("session", x.ask(wrong, 0, 0, 1), -1);
            due("level", x.ask(0, wrong, 0, 1), -1);
            due("table", x.ask(0, 0, wrong, 1), -1);
            due("mode", x.ask(0, 0, 0, wrong), -1);
        }
        due("the last of each", x.ask(5, 7, 7, 8), 0);
        due("ask", x.ask(0, 0, 1, 1), 0);
        due("ask", x.ask(0, 0, 7, 1), 1);
        due("it waits", x.ask(0, 0, 0, 1), -1);
        due("it waits, and holds it", x.ask(0, 0, 1, 1), -1);
        due("holds", x.holds(0, 0, 1), -1);
    }

    private static void lockSharedAndUpdate() {
        LockDesk x = start("5, lock");
        for (int s = 0; s < 3; s++) {
            due("number", x.number(s), s + 1);
        }
        due("shared", x.lock(1, 0, 1), 0);
        due("shared with another", x.lock(2, 0, 1), 0);
        due("update against shared", x.lock(3, 0, 2), 1);
        due("locker: nothing was done", x.locker(0, 2), 0);
        due("more against shared", x.lock(1, 0, 2), 2);
        due("locker: nothing was done", x.locker(0, 0), -1);
        due("update", x.lock(3, 1199, 2), 0);
        due("shared against update", x.lock(1, 1199, 1), 3);
        due("update against update", x.lock(2, 1199, 2), 3);
        due("another row", x.lock(2, 1198, 2), 0);
        due("over", x.over(2), true);
        due("more when it is alone", x.lock(1, 0, 2), 0);
        due("locker: once", x.locker(0, 0), 1);
        due("locker", x.locker(0, 1), 0);
        due("shared of what is updated", x.lock(1, 0, 1), 0);
        due("locker", x.locker(0, 0), 1);
    }

    private static void lockTellsTheLeast() {
        LockDesk x = start("5, the least number in conflict");
        for (int n = 1; n <= 6; n++) {
            due("number", x.number(n == 3 || n == 5 ? 1 : 0), n);
        }
        due("number", x.number(2), 7);
        due("shared", x.lock(5, 9, 1), 0);
        due("shared", x.lock(6, 9, 1), 0);
        due("shared by another of its session", x.lock(3, 9, 1), 0);
        due("locker: nothing is noted", x.locker(9, 0), -5);
        due("update", x.lock(7, 9, 2), 5);
        due("update, its own left out", x.lock(3, 9, 2), 6);
        due("update, its own left out", x.lock(1, 9, 2), 5);

        x = start("5, shared locks are not in conflict");
        due("number", x.number(0), 1);
        due("number", x.number(0), 2);
        due("number", x.number(1), 3);
        due("shared", x.lock(1, 4, 1), 0);
        due("update", x.lock(2, 4, 2), 0);
        due("shared against one of each", x.lock(3, 4, 1), 2);
        due("update against one of each", x.lock(3, 4, 2), 1);
    }

    private static void lockWithinASession() {
        LockDesk x = start("5, numbers of one session");
        due("number", x.number(4), 1);
        due("number", x.number(4), 2);
        due("update", x.lock(2, 3, 2), 0);
        due("shared", x.lock(1, 3, 1), 0);
        due("update", x.lock(1, 3, 2), 0);
        due("locker: only the first", x.locker(3, 0), 2);
        due("locker: only the first", x.locker(3, 1), 0);
        due("over", x.over(2), true);
        due("locker: nothing was noted", x.locker(3, 0), 0);
        due("shared", x.lock(1, 3, 1), 0);
        due("locker", x.locker(3, 0), -1);
        due("number", x.number(4), 3);
        due("update over shared", x.lock(3, 3, 2), 0);
        due("locker", x.locker(3, 0), -1);
        due("locker", x.locker(3, 1), 3);
    }

    /** With number and the last locker, as many calls as an object is used for. */
    private static void lockOfManyRows() {
        LockDesk x = start("5, as many locks as calls");
        due("number", x.number(0), 1);
        for (int row = 0; row < 510; row++) {
            due("lock", x.lock(1, 1199 - row, 1 + row % 2), 0);
        }
        due("locker", x.locker(690, 0), 1);
    }

    private static void lockRefuses() {
        LockDesk x = start("5, refused");
        due("number", x.number(0), 1);
        due("number", x.number(1), 2);
        due("row", x.lock(1, 1200, 1), -1);
        due("strength", x.lock(1, 0, 3), -1);
        due("strength", x.lock(1, 0, 0), -1);
        due("number", x.lock(0, 0, 1), -1);
        due("number", x.lock(3, 0, 1), -1);
        for (int wrong : WRONG) {
            due("row", x.lock(1, wrong, 1), -1);
            due("strength", x.lock(1, 0, wrong), -1);
            due("number", x.lock(wrong, 0, 1), -1);
        }
        due("await", x.await(0, 2), 1);
        due("its session waits", x.lock(1, 0, 1), -1);
        due("locker", x.locker(0, 0), 0);
        due("over", x.over(2), true);
        due("it runs no more", x.lock(2, 0, 1), -1);
        due("next", x.next(), 0);
        due("its session waits no more", x.lock(1, 0, 1), 0);
    }

    private static void awaitANumber() {
        LockDesk x = start("6, await");
        due("number", x.number(0), 1);
        due("number", x.number(0), 2);
        due("await", x.await(1, 2), 1);
        due("await", x.await(2, 2), 1);
        due("waiting", x.waiting(0), 1);
        due("waiting", x.waiting(1), 2);
        due("wish", x.wish(1), 10002);
        due("over", x.over(1), true);
        due("next", x.next(), -1);
        due("await what is over", x.await(3, 1), 0);
        due("wish", x.wish(3), 0);
        due("over", x.over(2), true);
        due("next", x.next(), 1);
        due("next", x.next(), 2);
    }

    private static void awaitClosesNoRing() {
        LockDesk x = start("6, rings");
        for (int s = 0; s < 6; s++) {
            due("number", x.number(s), s + 1);
            due("its own", x.await(s, s + 1), 2);
        }
        for (int s = 0; s < 5; s++) {
            due("await", x.await(s, s + 2), 1);
        }
        due("a ring of six", x.await(5, 1), 2);
        due("a ring of two", x.await(5, 5), 2);
        due("wish", x.wish(5), 0);
        due("over", x.over(4), true);
        due("no ring any more", x.await(5, 1), 1);

        x = start("6, a ring of six the other way round");
        for (int s = 0; s < 6; s++) {
            due("number", x.number(s), s + 1);
        }
        for (int s = 5; s > 0; s--) {
            due("await", x.await(s, s), 1);
        }
        due("a ring of six", x.await(0, 6), 2);

        x = start("6, a ring through a table");
        due("number", x.number(0), 1);
        due("ask", x.ask(1, 0, 0, 8), 0);
        due("ask", x.ask(0, 0, 0, 8), 1);
        due("await", x.await(1, 1), 2);
        due("await", x.await(2, 1), 1);
        due("drop", x.drop(0), true);
        due("await", x.await(1, 1), 1);
    }

    private static void awaitRefuses() {
        LockDesk x = start("6, refused");
        due("number", x.number(0), 1);
        due("number", x.number(2), 2);
        due("session", x.await(6, 1), -1);
        due("number", x.await(1, 0), -1);
        due("number", x.await(1, 3), -1);
        for (int wrong : WRONG) {
            due("session", x.await(wrong, 1), -1);
            due("number", x.await(1, wrong), -1);
        }
        due("await", x.await(1, 1), 1);
        due("it waits", x.await(1, 2), -1);
        due("over", x.over(2), true);
        due("it waits, though the number is over", x.await(1, 2), -1);
        due("wish", x.wish(1), 10001);
    }

    private static void nextTakesTheFirst() {
        LockDesk x = start("7, next");
        due("number", x.number(0), 1);
        due("ask", x.ask(0, 0, 0, 5), 0);
        due("ask", x.ask(1, 3, 0, 6), 1);
        due("await", x.await(2, 1), 1);
        due("ask", x.ask(3, 4, 0, 3), 1);
        due("nobody", x.next(), -1);
        due("over", x.over(1), true);
        due("past one that must wait", x.next(), 2);
        due("waiting", x.waiting(1), 3);
        due("await: it waits no more", x.await(2, 1), 0);
        due("end", x.end(0, 0), true);
        due("waits until it is told", x.wish(1), 6);
        due("the first", x.next(), 1);
        due("holds, at its level", x.holds(1, 0, 6), 3);
        due("wish", x.wish(1), 0);
        due("the second is not overtaken, nor let in", x.next(), -1);
        due("end", x.end(1, 4), true);
        due("below the level", x.next(), -1);
        due("end", x.end(1, 3), true);
        due("the second", x.next(), 3);
        due("holds", x.holds(3, 0, 3), 4);
        due("nobody", x.next(), -1);

        x = start("7, next in the order");
        due("ask", x.ask(5, 0, 1, 8), 0);
        due("ask", x.ask(4, 0, 1, 1), 1);
        due("ask", x.ask(2, 0, 1, 2), 1);
        due("ask", x.ask(3, 0, 1, 1), 1);
        due("end", x.end(5, 0), true);
        due("next", x.next(), 4);
        due("next", x.next(), 2);
        due("next", x.next(), 3);
    }

    private static void nextAfterADrop() {
        LockDesk x = start("7, next after a drop");
        due("ask", x.ask(0, 0, 1, 8), 0);
        due("ask", x.ask(0, 0, 2, 8), 0);
        due("ask", x.ask(1, 0, 1, 8), 1);
        due("ask", x.ask(2, 0, 2, 8), 1);
        due("ask", x.ask(3, 0, 1, 8), 1);
        due("drop", x.drop(1), true);
        due("ask of what was dropped", x.ask(4, 0, 1, 8), 0);
        due("next", x.next(), 9);
        due("next", x.next(), 11);
        due("next", x.next(), -1);
        due("holds", x.holds(1, 1, 8), -1);
        due("holds", x.holds(3, 1, 8), -1);
        due("ask again", x.ask(1, 0, 1, 8), 1);
        due("wish: not the dropped one", x.wish(1), 18);
        due("on", x.on(1), 16);
        due("end", x.end(4, 0), true);
        due("next", x.next(), 1);
        due("holds", x.holds(1, 1, 8), 0);
    }

    private static void cancelAWait() {
        LockDesk x = start("8, cancel");
        due("ask", x.ask(0, 0, 1, 3), 0);
        due("ask", x.ask(1, 0, 1, 8), 1);
        due("ask", x.ask(2, 0, 1, 1), 1);
        due("number", x.number(0), 1);
        due("await", x.await(3, 1), 1);
        due("cancel", x.cancel(0), false);
        due("cancel", x.cancel(6), false);
        for (int wrong : WRONG) {
            due("cancel", x.cancel(wrong), false);
        }
        due("cancel", x.cancel(1), true);
        due("cancel again", x.cancel(1), false);
        due("holds", x.holds(1, 1, 8), -1);
        due("wish", x.wish(1), 0);
        due("waiting", x.waiting(0), 2);
        due("waiting", x.waiting(1), 3);
        due("nobody is in its way", x.next(), 2);
        due("cancel", x.cancel(3), true);
        due("over", x.over(1), true);
        due("next", x.next(), -1);
        due("ask", x.ask(3, 0, 5, 8), 0);
    }

    private static void endFromALevel() {
        LockDesk x = start("9, end");
        for (int level = 0; level < 8; level++) {
            due("ask", x.ask(0, level, level, level + 1), 0);
        }
        due("ask", x.ask(1, 7, 0, 1), 0);
        due("session", x.end(6, 0), false);
        due("level", x.end(0, 8), false);
        for (int wrong : WRONG) {
            due("session", x.end(wrong, 0), false);
            due("level", x.end(0, wrong), false);
        }
        due("holds", x.holds(0, 7, 8), 7);
        due("end", x.end(0, 5), true);
        for (int level = 0; level < 8; level++) {
            due("holds", x.holds(0, level, level + 1), level < 5 ? level : -1);
        }
        due("end of nothing", x.end(0, 7), true);
        due("end", x.end(0, 0), true);
        due("holds", x.holds(0, 0, 1), -1);
        due("holds of another", x.holds(1, 0, 1), 7);
        due("ask", x.ask(2, 0, 3, 8), 0);
        due("ask", x.ask(0, 5, 3, 8), 1);
        due("end leaves a wait alone", x.end(0, 0), true);
        due("wish", x.wish(0), 38);
        due("end", x.end(2, 0), true);
        due("next", x.next(), 0);
        due("holds", x.holds(0, 3, 8), 5);
    }

    private static void releaseFromALevel() {
        LockDesk x = start("10, release");
        for (int level = 0; level < 8; level++) {
            due("ask", x.ask(0, level, level, 1), 0);
        }
        due("ask", x.ask(1, 7, 0, 1), 0);
        due("session", x.release(6, 1), false);
        due("level", x.release(0, 8), false);
        due("level 0", x.release(0, 0), false);
        for (int wrong : WRONG) {
            due("session", x.release(wrong, 1), false);
            due("level", x.release(0, wrong), false);
        }
        due("holds", x.holds(0, 7, 1), 7);
        due("release", x.release(0, 4), true);
        for (int level = 0; level < 8; level++) {
            due("holds", x.holds(0, level, 1), Math.min(level, 3));
        }
        due("release", x.release(0, 1), true);
        due("holds", x.holds(0, 7, 1), 0);
        due("holds of another", x.holds(1, 0, 1), 7);
        due("what is not held stays so", x.holds(0, 0, 2), -1);
        due("release of the highest", x.release(1, 7), true);
        due("holds", x.holds(1, 0, 1), 6);
    }

    private static void releaseOfAWait() {
        LockDesk x = start("10, release of what is asked for");
        due("ask", x.ask(0, 0, 0, 8), 0);
        due("ask", x.ask(1, 5, 0, 1), 1);
        due("ask", x.ask(2, 5, 0, 1), 1);
        due("ask", x.ask(3, 5, 0, 1), 1);
        due("release above", x.release(1, 6), true);
        due("release at", x.release(2, 5), true);
        due("release below", x.release(3, 2), true);
        due("end", x.end(0, 0), true);
        due("next", x.next(), 1);
        due("next", x.next(), 2);
        due("next", x.next(), 3);
        due("holds", x.holds(1, 0, 1), 5);
        due("holds", x.holds(2, 0, 1), 4);
        due("holds", x.holds(3, 0, 1), 1);
    }

    private static void dropATable() {
        LockDesk x = start("11, drop");
        due("ask", x.ask(0, 0, 7, 1), 0);
        due("ask", x.ask(0, 3, 7, 2), 0);
        due("ask", x.ask(1, 0, 7, 3), 0);
        due("ask", x.ask(1, 0, 6, 3), 0);
        due("ask", x.ask(2, 0, 7, 8), 1);
        due("ask", x.ask(3, 0, 6, 8), 1);
        due("table", x.drop(8), false);
        for (int wrong : WRONG) {
            due("table", x.drop(wrong), false);
        }
        due("wish", x.wish(2), 78);
        due("drop", x.drop(7), true);
        due("holds", x.holds(0, 7, 1), -1);
        due("holds", x.holds(0, 7, 2), -1);
        due("holds", x.holds(1, 7, 3), -1);
        due("another table", x.holds(1, 6, 3), 0);
        due("on", x.on(2), 0);
        due("on", x.on(3), 2);
        due("wish", x.wish(2), 1078);
        due("wish", x.wish(3), 68);
        due("drop again", x.drop(7), true);
        due("wish", x.wish(2), 1078);
        due("next", x.next(), 10);
        due("next", x.next(), -1);
        due("drop of what nobody holds", x.drop(0), true);

        x = start("11, drop and waits for numbers");
        due("number", x.number(0), 1);
        due("ask", x.ask(0, 0, 0, 8), 0);
        due("ask", x.ask(1, 0, 0, 8), 1);
        due("cancel", x.cancel(1), true);
        due("await", x.await(1, 1), 1);
        due("drop", x.drop(0), true);
        due("wish", x.wish(1), 10001);
        due("next", x.next(), -1);
    }

    private static void clearARow() {
        LockDesk x = start("12, clear");
        due("number", x.number(0), 1);
        due("number", x.number(1), 2);
        due("lock", x.lock(1, 5, 1), 0);
        due("lock", x.lock(2, 5, 1), 0);
        due("lock", x.lock(2, 6, 2), 0);
        due("row", x.clear(1200), false);
        for (int wrong : WRONG) {
            due("row", x.clear(wrong), false);
        }
        due("clear", x.clear(5), true);
        due("locker", x.locker(5, 0), 0);
        due("another row", x.locker(6, 0), 2);
        due("lock", x.lock(1, 5, 2), 0);
        due("locker: it is noted anew", x.locker(5, 0), 1);
        due("clear of the last row", x.clear(1199), true);
        due("clear of the first row", x.clear(0), true);
        due("the numbers run", x.over(1), true);
    }

    private static void holdsTellsTheLevel() {
        LockDesk x = start("13, holds");
        due("ask", x.ask(5, 7, 7, 8), 0);
        due("ask", x.ask(0, 2, 0, 1), 0);
        due("holds", x.holds(5, 7, 8), 7);
        due("holds", x.holds(0, 0, 1), 2);
        due("another mode", x.holds(0, 0, 2), -1);
        due("another table", x.holds(0, 1, 1), -1);
        due("another session", x.holds(1, 0, 1), -1);
        due("session", x.holds(6, 0, 1), -1);
        due("table", x.holds(0, 8, 1), -1);
        due("mode", x.holds(0, 0, 9), -1);
        due("mode", x.holds(0, 1, 0), -1);
        for (int wrong : WRONG) {
            due("session", x.holds(wrong, 0, 1), -1);
            due("table", x.holds(0, wrong, 1), -1);
            due("mode", x.holds(0, 0, wrong), -1);
        }
        due("ask", x.ask(1, 0, 7, 1), 1);
        due("what it waits for", x.holds(1, 7, 1), -1);
    }

    private static void lockerBySize() {
        LockDesk x = start("14, locker");
        for (int n = 1; n <= 5; n++) {
            due("number", x.number(n - 1), n);
        }
        int[] byTime = {4, 2, 5, 1};
        for (int n : byTime) {
            due("lock", x.lock(n, 8, 1), 0);
            due("lock", x.lock(n, 9 + n, 2), 0);
        }
        due("locker", x.locker(8, 0), -1);
        due("locker", x.locker(8, 1), -2);
        due("locker", x.locker(8, 2), -4);
        due("locker", x.locker(8, 3), -5);
        due("none", x.locker(8, 4), 0);
        due("update", x.locker(13, 0), 4);
        due("no such row", x.locker(1200, 0), 0);
        for (int wrong : WRONG) {
            due("row", x.locker(wrong, 0), 0);
            due("k", x.locker(8, wrong), 0);
        }
        due("over", x.over(2), true);
        due("locker", x.locker(8, 1), -4);
        due("locker", x.locker(8, 3), 0);
    }

    private static void onTellsSessions() {
        LockDesk x = start("15, on");
        due("ask", x.ask(0, 0, 0, 3), 0);
        due("ask", x.ask(5, 0, 0, 3), 0);
        due("ask", x.ask(5, 0, 0, 2), 0);
        due("ask", x.ask(4, 0, 0, 1), 0);
        due("ask", x.ask(1, 0, 0, 6), 1);
        due("ask", x.ask(2, 0, 0, 7), 1);
        due("holders", x.on(1), 1 + 32);
        due("holders and one before", x.on(2), 1 + 32 + 2);
        due("it does not wait", x.on(0), 0);
        due("cancel", x.cancel(1), true);
        due("ask", x.ask(1, 0, 0, 6), 1);
        due("the order is that of the new wait", x.on(1), 1 + 32 + 4);
        due("the order is that of the new wait", x.on(2), 1 + 32);
        due("end", x.end(0, 0), true);
        due("end", x.end(5, 0), true);
        due("on none any more", x.on(2), 0);
        due("number", x.number(0), 1);
        due("await", x.await(3, 1), 1);
        due("whose the number is", x.on(3), 1);
        due("over", x.over(1), true);
        due("on none any more", x.on(3), 0);
        due("next", x.next(), 2);
        due("next", x.next(), 3);
        due("ask after await", x.ask(3, 0, 0, 5), 1);
        due("wish", x.wish(3), 5);
        due("a holder and one before", x.on(3), 4 + 2);
        due("ask", x.ask(4, 0, 0, 4), 1);
        due("a holder and two before", x.on(4), 4 + 2 + 8);
        due("session", x.on(6), 0);
        for (int wrong : WRONG) {
            due("session", x.on(wrong), 0);
        }
    }

    private static void waitingInOrder() {
        LockDesk x = start("16, waiting");
        due("number", x.number(3), 1);
        due("ask", x.ask(3, 0, 0, 8), 0);
        int[] order = {4, 0, 5, 2, 1};
        for (int s : order) {
            due("begins", s % 2 == 0 ? x.await(s, 1) : x.ask(s, 0, 0, 1), 1);
        }
        for (int k = 0; k < order.length; k++) {
            due("waiting", x.waiting(k), order[k]);
        }
        due("none", x.waiting(5), -1);
        due("none", x.waiting(6), -1);
        for (int wrong : WRONG) {
            due("none", x.waiting(wrong), -1);
        }
        due("cancel", x.cancel(0), true);
        due("await: at the end now", x.await(0, 1), 1);
        due("waiting", x.waiting(1), 5);
        due("waiting", x.waiting(4), 0);
        due("over", x.over(1), true);
        due("number", x.number(4), 2);
        due("await: all six", x.await(3, 2), 1);
        due("the sixth", x.waiting(5), 3);
        due("none", x.waiting(6), -1);
        due("drop", x.drop(0), true);
        due("refused", x.ask(3, 0, 0, 1), -1);
        int[] awake = {4, 13, 2, 9, 0};
        for (int s : awake) {
            due("next", x.next(), s);
        }
        due("next", x.next(), -1);
        due("waiting", x.waiting(0), 3);
    }

    private static void wishTellsAll() {
        LockDesk x = start("17, wish");
        due("number", x.number(0), 1);
        due("ask", x.ask(0, 0, 7, 8), 0);
        due("ask", x.ask(0, 0, 0, 8), 0);
        due("ask", x.ask(1, 0, 7, 8), 1);
        due("ask", x.ask(2, 0, 0, 1), 1);
        due("await", x.await(3, 1), 1);
        due("wish", x.wish(1), 78);
        due("wish", x.wish(2), 1);
        due("wish", x.wish(3), 10001);
        due("none", x.wish(0), 0);
        due("session", x.wish(6), -1);
        for (int wrong : WRONG) {
            due("session", x.wish(wrong), -1);
        }
        due("drop", x.drop(0), true);
        due("over", x.over(1), true);
        due("wish", x.wish(1), 78);
        due("dropped", x.wish(2), 1001);
        due("a number that is over", x.wish(3), 10001);
        due("cancel", x.cancel(2), true);
        due("wish", x.wish(2), 0);
    }
}
