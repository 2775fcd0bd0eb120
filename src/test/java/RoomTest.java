import com.sun.management.ThreadMXBean;
import java.lang.management.ManagementFactory;
import java.lang.reflect.Array;
import java.lang.reflect.Field;
import java.lang.reflect.Modifier;
import java.util.ArrayDeque;
import java.util.Collections;
import java.util.Deque;
import java.util.IdentityHashMap;
import java.util.Set;

/** All calls of a run live in one room: what an object has from its constructor, and that no call makes more. */
public final class RoomTest {
    private static final int OBJECTS_MOST = 50, ELEMENTS_MOST = 2500;
    private static final int ROUNDS = 50;
    private static final Due DUE = new Due();

    public static void main(String[] args) throws IllegalAccessException {
        ofAnObject();
        ofCalls();
        DUE.end("RoomTest");
    }

    private static void ofAnObject() throws IllegalAccessException {
        Set<Object> seen = Collections.newSetFromMap(new IdentityHashMap<>());
        Deque<Object> open = new ArrayDeque<>();
        EchoTaps x = new EchoTaps();
        seen.add(x);
        open.add(x);
        int elements = 0;
        while (!open.isEmpty()) {
            Object o = open.remove();
            elements += o.getClass().isArray() ? elementsOf(o, seen, open) : fieldsOf(o, seen, open);
        }
        DUE.holds("objects and arrays of a new object: " + seen.size(), seen.size() <= OBJECTS_MOST);
        DUE.holds("fields and elements of a new object: " + elements, elements <= ELEMENTS_MOST);
    }

    private static int elementsOf(Object array, Set<Object> seen, Deque<Object> open) {
        int length = Array.getLength(array);
        for (int i = 0; i < length && !array.getClass().getComponentType().isPrimitive(); i++) {
            visit(Array.get(array, i), seen, open);
        }
        return length;
    }

    private static int fieldsOf(Object o, Set<Object> seen, Deque<Object> open) throws IllegalAccessException {
        int fields = 0;
        for (Field f : o.getClass().getDeclaredFields()) {
            if (!Modifier.isStatic(f.getModifiers())) {
                fields++;
                f.setAccessible(true);
                if (!f.getType().isPrimitive()) {
                    visit(f.get(o), seen, open);
                }
            }
        }
        return fields;
    }

    private static void visit(Object o, Set<Object> seen, Deque<Object> open) {
        if (o != null && seen.add(o)) {
            open.add(o);
        }
    }

    private static void ofCalls() {
        ThreadMXBean room = (ThreadMXBean) ManagementFactory.getThreadMXBean();
        DUE.holds("the room can be measured", room.isThreadAllocatedMemorySupported());
        long self = Thread.currentThread().getId();
        // The first round may load classes, and the first answer may come dearer than the others.
        callAll(new EchoTaps());
        room.getThreadAllocatedBytes(self);
        for (int round = 0; round < ROUNDS; round++) {
            EchoTaps x = new EchoTaps();
            long ahead = room.getThreadAllocatedBytes(self);
            callAll(x);
            long behind = room.getThreadAllocatedBytes(self);
            DUE.is("bytes made by calls, round " + round, behind - ahead, 0);
        }
    }

    private static int callAll(EchoTaps x) {
        int sum = 0;
        for (int i = -1; i < 17; i++) {
            sum += x.rule(i, i) + x.tick(100 * i, 31 * i) + x.part(i, 50 * i) + x.speak(-40 * i, i) + x.tap(i);
            sum += x.run(1000 * i, 3 * i, 50 * i) + x.learnt(i, 60 * i, 9) + x.last(i) + x.ago(i, 1) + x.likeness(i);
            sum += x.gain(i) + x.began(i, 0) + x.began(i, 1) + x.image(i) + x.count(i) + x.restore(i);
        }
        return sum + x.seek();
    }
}
