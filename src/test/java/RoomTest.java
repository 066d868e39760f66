import com.sun.management.ThreadMXBean;
import java.lang.management.ManagementFactory;
import java.lang.reflect.Array;
import java.lang.reflect.Field;
import java.lang.reflect.Modifier;
import java.util.ArrayDeque;
import java.util.Deque;
import java.util.IdentityHashMap;
import java.util.Map;

/** A new object is small, and no call makes objects: a run's room is far from full. */
public final class RoomTest {
    private static final ThreadMXBean THREADS = (ThreadMXBean) ManagementFactory.getThreadMXBean();

    private long objects;
    private long places;

    public static void main(String[] args) throws IllegalAccessException {
        RoomTest room = new RoomTest();
        room.measure(new SealedWire());
        System.out.println("a new object: " + room.objects + " objects, " + room.places + " fields and elements");
        Kit.same("at most 200 objects", room.objects <= 200, true);
        Kit.same("at most 14000 fields and elements", room.places <= 14000, true);

        dearestCalls(Scene.ready());
        SealedWire wire = Scene.ready();
        long before = THREADS.getCurrentThreadAllocatedBytes();
        dearestCalls(wire);
        long bytes = THREADS.getCurrentThreadAllocatedBytes() - before;
        System.out.println("300 calls: " + bytes + " bytes");
        Kit.same("the calls make next to nothing", bytes < 20000, true);
        Kit.same("exchanges", wire.about(0, 4), 100);
        Kit.finish();
    }

    /** A hundred exchanges, each with a packet of data. */
    private static void dearestCalls(SealedWire wire) {
        for (int i = 0; i < 100; i++) {
            wire.begin(i % 2);
            wire.run(50);
            wire.type(i, 8);
            wire.hash();
        }
    }

    private void measure(Object root) throws IllegalAccessException {
        Map<Object, Boolean> seen = new IdentityHashMap<>();
        Deque<Object> open = new ArrayDeque<>();
        open.add(root);
        seen.put(root, true);
        while (!open.isEmpty()) {
            Object object = open.remove();
            objects++;
            if (object.getClass().isArray()) {
                measureArray(object, open, seen);
            } else {
                measureFields(object, open, seen);
            }
        }
    }

    private void measureArray(Object array, Deque<Object> open, Map<Object, Boolean> seen) {
        places += Array.getLength(array);
        if (!array.getClass().getComponentType().isPrimitive()) {
            for (int i = 0; i < Array.getLength(array); i++) {
                follow(Array.get(array, i), open, seen);
            }
        }
    }

    private void measureFields(Object object, Deque<Object> open, Map<Object, Boolean> seen)
            throws IllegalAccessException {
        for (Field field : object.getClass().getDeclaredFields()) {
            if (!Modifier.isStatic(field.getModifiers())) {
                places++;
                field.setAccessible(true);
                if (!field.getType().isPrimitive()) {
                    follow(field.get(object), open, seen);
                }
            }
        }
    }

    private static void follow(Object next, Deque<Object> open, Map<Object, Boolean> seen) {
        if (next != null && seen.put(next, true) == null) {
            open.add(next);
        }
    }
}
