/** The calls of the face by name, so that tests can keep them in lists and make them again. */
final class Calls {
    static final String[] NAMES = {"number", "over", "ask", "lock", "await", "next", "cancel", "end",
        "release", "drop", "clear", "holds", "locker", "on", "waiting", "wish"};

    private Calls() {
    }

    /** A boolean counts 1 or 0; arguments that a call does not take are left out. */
    static int answer(LockDesk x, String name, int a, int b, int c, int d) {
        return switch (name) {
            case "number" -> x.number(a);
            case "over" -> truth(x.over(a));
            case "ask" -> x.ask(a, b, c, d);
            case "lock" -> x.lock(a, b, c);
            case "await" -> x.await(a, b);
            case "next" -> x.next();
            case "cancel" -> truth(x.cancel(a));
            case "end" -> truth(x.end(a, b));
            case "release" -> truth(x.release(a, b));
            case "drop" -> truth(x.drop(a));
            case "clear" -> truth(x.clear(a));
            case "holds" -> x.holds(a, b, c);
            case "locker" -> x.locker(a, b);
            case "on" -> x.on(a);
            case "waiting" -> x.waiting(a);
            case "wish" -> x.wish(a);
            default -> throw new IllegalArgumentException("no such call: " + name);
        };
    }

    static int truth(boolean yes) {
        return yes ? 1 : 0;
    }
}
