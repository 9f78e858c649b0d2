import java.lang.management.ManagementFactory;
import java.lang.reflect.Array;
import java.lang.reflect.Field;
import java.lang.reflect.Modifier;
import java.util.ArrayDeque;
import java.util.ArrayList;
import java.util.Collections;
import java.util.Deque;
import java.util.IdentityHashMap;
import java.util.List;
import java.util.Set;

/** All calls of a run live in one room: an object is small, and no call but an image's first makes anything. */
final class RoomTests {
    private static final int MOST_OBJECTS = 50;
    private static final int MOST_ELEMENTS = 3000;

    static void run() {
        Check.test("an object is small", RoomTests::small);
        Check.test("calls make nothing", RoomTests::makesNothing);
    }

    private static void small() throws Exception {
        SpringFarms x = new SpringFarms();
        x.image(0);
        x.image(1);
        Set<Object> found = Collections.newSetFromMap(new IdentityHashMap<>());
        Deque<Object> open = new ArrayDeque<>(List.of(x));
        int elements = 0;
        while (!open.isEmpty()) {
            Object one = open.pop();
            if (found.add(one)) {
                List<Object> parts = parts(one);
                elements += one.getClass().isArray() ? Array.getLength(one) : parts.size();
                parts.stream().filter(part -> part != null).forEach(open::push);
            }
        }
        Check.holds(found.size() + " objects", found.size() <= MOST_OBJECTS);
        Check.holds(elements + " elements", elements <= MOST_ELEMENTS);
    }

    /** What an object's fields hold; of a number null stands. */
    private static List<Object> parts(Object one) throws Exception {
        List<Object> parts = new ArrayList<>();
        if (one instanceof Object[]) {
            Collections.addAll(parts, (Object[]) one);
        } else if (!one.getClass().isArray()) {
            for (Field field : one.getClass().getDeclaredFields()) {
                if (!Modifier.isStatic(field.getModifiers())) {
                    field.setAccessible(true);
                    parts.add(field.getType().isPrimitive() ? null : field.get(one));
                }
            }
        }
        return parts;
    }

    private static void makesNothing() {
        com.sun.management.ThreadMXBean threads = (com.sun.management.ThreadMXBean) ManagementFactory.getThreadMXBean();
        SpringFarms x = Told.three();
        x.image(0);
        x.image(1);
        callAll(x);
        long before = threads.getThreadAllocatedBytes(Thread.currentThread().getId());
        for (int k = 0; k < 200; k++) {
            callAll(x);
        }
        long made = threads.getThreadAllocatedBytes(Thread.currentThread().getId()) - before;
        // The measuring itself may make a few; one array a round would be thousands of bytes.
        Check.holds("200 rounds make " + made + " bytes", made < 2000);
    }

    private static void callAll(SpringFarms x) {
        x.farms(9);
        x.farm(0, 0, 3);
        x.set(0, 30);
        x.say('A');
        x.say('.');
        x.fault();
        x.judge(2);
        x.behind(0, 0);
        x.ditch();
        x.first(0);
        x.done();
        x.wipe();
        x.takes(0, 1);
        x.takesIf(1, 0);
        x.robbed(0);
        x.hours();
        x.spring(5);
        x.narrow(5, -1);
        x.highest(0, 5);
        x.bored(3, 3, 1);
        x.fair();
        x.dry(5);
        x.seen(1, 1);
        x.leak(-1);
        x.borer(-1);
        x.listen(1);
        x.forget();
        x.rests(7, -1);
        x.frost(0, 3, 4, 12, 1);
        x.year(3, 99, 1);
        x.image(0);
        x.restore(1);
        x.told(16);
    }

    private RoomTests() {
    }
}
