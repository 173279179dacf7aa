import java.util.ArrayList;
import java.util.List;

/**
 * "A call that is refused changes nothing": the same calls are made on two new objects, on one of
 * them with a refused call at the end, and then all that can be seen of both is compared; first as
 * it stands, then once more after calls that bring to light what is kept for later.
 */
public final class RefusedCallsTest {
    private static final int[] WRONG = {-1, Integer.MIN_VALUE, Integer.MAX_VALUE};
    private static final int[] ROWS = {0, 1, 2, 1199};
    private static final Checks CHECKS = new Checks();

    public static void main(String[] args) {
        refusedAtFirst();
        refusedAmongWaits();
        refusedWhenAllWait();
        nothingWasDone();
        CHECKS.finish("RefusedCallsTest");
    }

    private record Call(String name, int a, int b, int c, int d) {
        int on(LockDesk desk) {
            return Calls.answer(desk, name, a, b, c, d);
        }

        @Override
        public String toString() {
            return name + "(" + a + ", " + b + ", " + c + ", " + d + ")";
        }
    }

    private static Call call(String name, int... arguments) {
        int[] all = new int[4];
        System.arraycopy(arguments, 0, all, 0, arguments.length);
        return new Call(name, all[0], all[1], all[2], all[3]);
    }

    private static LockDesk after(List<Call> scene) {
        LockDesk desk = new LockDesk();
        for (Call call : scene) {
            call.on(desk);
        }
        return desk;
    }

    private static void changesNothing(List<Call> scene, Call refused, int answer) {
        LockDesk seen = after(scene);
        CHECKS.due(refused + " is refused", refused.on(seen), answer);
        compare(refused + ", seen", look(seen), look(after(scene)));
        LockDesk told = after(scene);
        refused.on(told);
        compare(refused + ", brought to light", wakeAll(told), wakeAll(after(scene)));
        LockDesk ended = after(scene);
        refused.on(ended);
        compare(refused + ", numbers", endNumbers(ended), endNumbers(after(scene)));
    }

    private static void compare(String call, List<Integer> got, List<Integer> want) {
        CHECKS.due(call + ": answers", got.size(), want.size());
        for (int i = 0; i < want.size() && i < got.size(); i++) {
            CHECKS.due(call + ": answer " + i, got.get(i), want.get(i));
        }
    }

    /** All that can be seen without a change, in fewer than 450 calls. */
    private static List<Integer> look(LockDesk x) {
        List<Integer> seen = new ArrayList<>();
        for (int s = 0; s < 6; s++) {
            seen.add(x.wish(s));
            seen.add(x.on(s));
            seen.add(x.waiting(s));
            for (int table = 0; table < 8; table++) {
                for (int mode = 1; mode <= 8; mode++) {
                    seen.add(x.holds(s, table, mode));
                }
            }
        }
        for (int row : ROWS) {
            for (int k = 0; k < 4; k++) {
                seen.add(x.locker(row, k));
            }
        }
        return seen;
    }

    /** The levels of what is waited for, which are seen once it is held. */
    private static List<Integer> wakeAll(LockDesk x) {
        List<Integer> seen = new ArrayList<>();
        for (int round = 0; round < 6; round++) {
            int woken = x.next();
            seen.add(woken);
            for (int s = 0; s < 6; s++) {
                if (s != woken) {
                    seen.add(Calls.truth(x.end(s, 0)));
                }
            }
            for (int table = 0; woken >= 0 && woken < 6 && table < 3; table++) {
                for (int mode = 1; mode <= 8; mode++) {
                    seen.add(x.holds(woken, table, mode));
                }
            }
        }
        return seen;
    }

    /** Which numbers run, whose they are, and which is the next. */
    private static List<Integer> endNumbers(LockDesk x) {
        List<Integer> seen = new ArrayList<>();
        for (int s = 0; s < 6; s++) {
            seen.add(Calls.truth(x.cancel(s)));
        }
        for (int n = 0; n <= 12; n++) {
            for (int s = 0; s < 6; s++) {
                seen.add(x.await(s, n));
                seen.add(x.on(s));
                seen.add(Calls.truth(x.cancel(s)));
            }
            seen.add(Calls.truth(x.over(n)));
            seen.add(x.next());
        }
        for (int s = 0; s < 6; s++) {
            seen.add(x.number(s));
        }
        return seen;
    }

    /** Each argument of each call made wrong, with the others right. */
    private static void wrongArguments(List<Call> scene) {
        for (int wrong : WRONG) {
            wrongSession(scene, wrong);
            wrongOthers(scene, wrong, wrong, wrong, wrong);
            wrongNumber(scene, wrong);
        }
        wrongSession(scene, 6);
        wrongOthers(scene, 8, 8, 9, 1200);
        wrongOthers(scene, 8, 8, 0, 1200);
        wrongNumber(scene, 0);
        wrongNumber(scene, 100);
    }

    private static void wrongSession(List<Call> scene, int s) {
        changesNothing(scene, call("number", s), -1);
        changesNothing(scene, call("ask", s, 0, 0, 8), -1);
        changesNothing(scene, call("await", s, 1), -1);
        changesNothing(scene, call("cancel", s), 0);
        changesNothing(scene, call("end", s, 0), 0);
        changesNothing(scene, call("release", s, 1), 0);
        changesNothing(scene, call("holds", s, 0, 1), -1);
        changesNothing(scene, call("on", s), 0);
        changesNothing(scene, call("wish", s), -1);
    }

    private static void wrongOthers(List<Call> scene, int level, int table, int mode, int row) {
        for (int s = 0; s < 6; s++) {
            changesNothing(scene, call("ask", s, level, 0, 1), -1);
            changesNothing(scene, call("ask", s, 0, table, 1), -1);
            changesNothing(scene, call("ask", s, 0, 0, mode), -1);
            changesNothing(scene, call("end", s, level), 0);
            changesNothing(scene, call("release", s, level), 0);
            changesNothing(scene, call("release", s, 0), 0);
            changesNothing(scene, call("holds", s, table, 1), -1);
            changesNothing(scene, call("holds", s, 0, mode), -1);
        }
        changesNothing(scene, call("drop", table), 0);
        changesNothing(scene, call("clear", row), 0);
        changesNothing(scene, call("locker", row, 0), 0);
        changesNothing(scene, call("lock", 1, row, 1), -1);
        changesNothing(scene, call("lock", 1, 0, mode == 9 ? 3 : mode), -1);
        changesNothing(scene, call("waiting", mode == 0 ? 6 : mode), -1);
        changesNothing(scene, call("locker", 0, mode == 0 ? 6 : mode), 0);
    }

    private static void wrongNumber(List<Call> scene, int n) {
        changesNothing(scene, call("over", n), 0);
        changesNothing(scene, call("lock", n, 0, 1), -1);
        changesNothing(scene, call("lock", n, 1199, 2), -1);
        for (int s = 0; s < 6; s++) {
            changesNothing(scene, call("await", s, n), -1);
        }
    }

    private static void refusedAtFirst() {
        CHECKS.part("refused on a new object");
        List<Call> scene = List.of();
        wrongArguments(scene);
        changesNothing(scene, call("over", 1), 0);
        changesNothing(scene, call("lock", 1, 0, 1), -1);
        changesNothing(scene, call("await", 0, 1), -1);
        changesNothing(scene, call("next"), -1);
        changesNothing(scene, call("cancel", 0), 0);
    }

    /** 1 waits for a table, 2 behind it, 3 for a number, 4 for a dropped table; 0 and 5 are free. */
    private static List<Call> amongWaits() {
        List<Call> scene = new ArrayList<>();
        for (int n = 1; n <= 6; n++) {
            scene.add(call("number", n - 1));
        }
        scene.add(call("number", 5));
        scene.add(call("over", 7));
        scene.add(call("ask", 0, 4, 2, 8));
        scene.add(call("ask", 4, 3, 2, 1));
        scene.add(call("drop", 2));
        scene.add(call("ask", 0, 4, 0, 3));
        scene.add(call("ask", 0, 7, 1, 8));
        scene.add(call("ask", 5, 2, 0, 1));
        scene.add(call("ask", 5, 2, 2, 4));
        scene.add(call("ask", 1, 0, 0, 2));
        scene.add(call("lock", 1, 0, 1));
        scene.add(call("lock", 2, 0, 1));
        scene.add(call("lock", 2, 1, 2));
        scene.add(call("lock", 6, 1199, 2));
        scene.add(call("ask", 1, 6, 0, 7));
        scene.add(call("ask", 2, 5, 0, 3));
        scene.add(call("await", 3, 1));
        return scene;
    }

    private static void refusedAmongWaits() {
        CHECKS.part("refused among waits");
        List<Call> scene = amongWaits();
        wrongArguments(scene);
        for (int s = 1; s <= 4; s++) {
            changesNothing(scene, call("ask", s, 0, 7, 8), -1);
            changesNothing(scene, call("ask", s, 7, 0, 7), -1);
            changesNothing(scene, call("ask", s, 7, 0, 2), -1);
            changesNothing(scene, call("ask", s, 0, 2, 1), -1);
            for (int n = 1; n <= 7; n++) {
                changesNothing(scene, call("await", s, n), -1);
            }
            changesNothing(scene, call("lock", s + 1, 2, 1), -1);
            changesNothing(scene, call("lock", s + 1, 1, 2), -1);
            changesNothing(scene, call("lock", s + 1, 0, 1), -1);
        }
        changesNothing(scene, call("over", 7), 0);
        changesNothing(scene, call("over", 8), 0);
        changesNothing(scene, call("lock", 7, 2, 1), -1);
        changesNothing(scene, call("lock", 8, 2, 1), -1);
        changesNothing(scene, call("await", 0, 8), -1);
        changesNothing(scene, call("cancel", 0), 0);
        changesNothing(scene, call("cancel", 5), 0);
    }

    /** All six wait, each for a number that is over or for a table that was dropped. */
    private static void refusedWhenAllWait() {
        CHECKS.part("refused when all wait");
        List<Call> scene = new ArrayList<>();
        for (int s = 0; s < 6; s++) {
            scene.add(call("number", s));
        }
        scene.add(call("ask", 5, 0, 0, 8));
        for (int s = 0; s < 5; s++) {
            scene.add(s % 2 == 0 ? call("ask", s, s, 0, 1) : call("await", s, 6));
        }
        scene.add(call("drop", 0));
        scene.add(call("over", 6));
        scene.add(call("await", 5, 5));
        wrongArguments(scene);
        for (int s = 0; s < 6; s++) {
            changesNothing(scene, call("ask", s, 0, 1, 1), -1);
            changesNothing(scene, call("await", s, 6), -1);
            changesNothing(scene, call("await", s, 1), -1);
            changesNothing(scene, call("lock", s + 1, 0, 1), -1);
        }
    }

    /** Answers that are no refusals, but of which the document says that nothing was done. */
    private static void nothingWasDone() {
        CHECKS.part("nothing was done");
        List<Call> scene = amongWaits();
        changesNothing(scene, call("ask", 0, 0, 0, 5), 2);
        changesNothing(scene, call("ask", 0, 0, 0, 8), 2);
        changesNothing(scene, call("await", 0, 1), 2);
        changesNothing(scene, call("await", 0, 2), 2);
        changesNothing(scene, call("await", 0, 3), 2);
        changesNothing(scene, call("await", 0, 4), 2);
        changesNothing(scene, call("await", 5, 6), 2);
        changesNothing(scene, call("await", 5, 7), 0);
        changesNothing(scene, call("lock", 1, 0, 2), 2);
        changesNothing(scene, call("lock", 6, 0, 2), 1);
        changesNothing(scene, call("lock", 6, 1, 1), 2);
        changesNothing(scene, call("lock", 1, 1199, 1), 6);
        changesNothing(scene, call("lock", 1, 0, 1), 0);
        changesNothing(scene, call("lock", 6, 1199, 1), 0);
        changesNothing(scene, call("lock", 6, 1199, 2), 0);
        changesNothing(scene, call("ask", 0, 0, 0, 3), 0);
        changesNothing(scene, call("ask", 0, 7, 0, 3), 0);
        scene.add(call("next"));
        changesNothing(scene, call("next"), -1);
    }
}
