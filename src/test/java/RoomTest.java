import java.lang.management.ManagementFactory;
import java.lang.reflect.Array;
import java.lang.reflect.Field;
import java.lang.reflect.Modifier;
import java.util.IdentityHashMap;
import java.util.Map;
import java.util.Random;

/**
 * "All memory is the class's own": an object holds all that it needs from the first, and no call
 * makes anything more, however many objects and calls a run has.
 */
public final class RoomTest {
    private static final int CALLS = 512;
    private static final int MOST_OBJECTS = 30;
    private static final int MOST_ELEMENTS = 8000;
    private static final int DESKS = 400;

    public static void main(String[] args) throws IllegalAccessException {
        Checks checks = new Checks();
        holdsTheSameAfterAllCalls(checks);
        callsMakeNothing(checks);
        checks.finish("RoomTest");
    }

    private static void holdsTheSameAfterAllCalls(Checks checks) throws IllegalAccessException {
        checks.part("what an object holds");
        LockDesk desk = new LockDesk();
        Map<Object, Integer> first = sizes(desk);
        int elements = first.values().stream().mapToInt(Integer::intValue).sum();
        checks.due("objects: " + first.size(), first.size() <= MOST_OBJECTS, true);
        checks.due("fields and elements: " + elements, elements <= MOST_ELEMENTS, true);
        callAll(desk, new Random(1));
        Map<Object, Integer> last = sizes(desk);
        checks.due("objects after all calls", last.size(), first.size());
        checks.due("the very same", first.keySet().containsAll(last.keySet()), true);
    }

    /** Each object and array that can be reached, with the count of its fields or elements. */
    private static Map<Object, Integer> sizes(Object root) throws IllegalAccessException {
        Map<Object, Integer> sizes = new IdentityHashMap<>();
        reach(root, sizes);
        return sizes;
    }

    private static void reach(Object object, Map<Object, Integer> sizes)
            throws IllegalAccessException {
        if (object == null || sizes.containsKey(object)) {
            return;
        }
        if (object.getClass().isArray()) {
            sizes.put(object, Array.getLength(object));
            return;
        }
        sizes.put(object, object.getClass().getDeclaredFields().length);
        for (Field field : object.getClass().getDeclaredFields()) {
            if (!Modifier.isStatic(field.getModifiers()) && !field.getType().isPrimitive()) {
                field.setAccessible(true);
                reach(field.get(object), sizes);
            }
        }
    }

    /** One call of the sixteen that made one object each time would make far more than is let pass. */
    private static void callsMakeNothing(Checks checks) {
        checks.part("what calls make");
        if (!(ManagementFactory.getThreadMXBean() instanceof com.sun.management.ThreadMXBean bean)
            || !bean.isThreadAllocatedMemorySupported()) {
            return;
        }
        Random random = new Random(2);
        LockDesk[] desks = new LockDesk[DESKS];
        for (int k = 0; k < desks.length; k++) {
            desks[k] = new LockDesk();
        }
        callAll(new LockDesk(), random);
        long thread = Thread.currentThread().getId();
        bean.getThreadAllocatedBytes(thread);
        long before = bean.getThreadAllocatedBytes(thread);
        for (LockDesk desk : desks) {
            callAll(desk, random);
        }
        long made = bean.getThreadAllocatedBytes(thread) - before;
        checks.due("bytes: " + made, made < (long) DESKS * CALLS / 8, true);
    }

    private static void callAll(LockDesk desk, Random random) {
        for (int i = 0; i < CALLS; i++) {
            String name = Calls.NAMES[random.nextInt(Calls.NAMES.length)];
            Calls.answer(desk, name, random.nextInt(9), random.nextInt(4), random.nextInt(4),
                1 + random.nextInt(8));
        }
    }
}
