import java.lang.reflect.Array;
import java.lang.reflect.Field;
import java.lang.reflect.Modifier;
import java.util.ArrayDeque;
import java.util.Collections;
import java.util.Deque;
import java.util.IdentityHashMap;
import java.util.Set;

/** All calls of a run live in one room: an object that is full to the brim stays small, and stops growing. */
public final class RoomTest {
    private static final int MOST_OBJECTS = 70;
    private static final int MOST_ELEMENTS = 5000;

    public static void main(String[] args) throws IllegalAccessException {
        ToldFacts facts = Check.withDesks(8);
        for (int desk = 0; desk < 40; desk++) {
            facts.batch(desk % 8);
            facts.endBatch(desk);
        }
        for (int seed = 0; seed < 4; seed++) {
            facts.play(seed, 200);
        }
        Check.due("full", facts.tell(0, 0, 0, 0, 0), Check.FULL);
        long[] before = measure(facts);
        System.out.println("RoomTest: " + before[0] + " objects, " + before[1] + " fields and elements");
        Check.due("objects", before[0] <= MOST_OBJECTS, true);
        Check.due("fields and elements", before[1] <= MOST_ELEMENTS, true);
        for (int call = 0; call < 300; call++) {
            facts.join(call % 8, call % 7);
        }
        long[] after = measure(facts);
        Check.due("objects after more calls", after[0], before[0]);
        Check.due("fields and elements after more calls", after[1], before[1]);
        Check.end("RoomTest");
    }

    private static long[] measure(Object root) throws IllegalAccessException {
        Set<Object> seen = Collections.newSetFromMap(new IdentityHashMap<>());
        Deque<Object> left = new ArrayDeque<>();
        left.add(root);
        long elements = 0;
        while (!left.isEmpty()) {
            Object object = left.remove();
            if (!seen.add(object)) {
                continue;
            }
            if (object.getClass().isArray()) {
                elements += Array.getLength(object);
                addElements(object, left);
            } else {
                elements += addFields(object, left);
            }
        }
        return new long[] {seen.size(), elements};
    }

    private static void addElements(Object array, Deque<Object> left) {
        if (!array.getClass().getComponentType().isPrimitive()) {
            for (int i = 0; i < Array.getLength(array); i++) {
                if (Array.get(array, i) != null) {
                    left.add(Array.get(array, i));
                }
            }
        }
    }

    private static int addFields(Object object, Deque<Object> left) throws IllegalAccessException {
        int fields = 0;
        for (Field field : object.getClass().getDeclaredFields()) {
            if (!Modifier.isStatic(field.getModifiers())) {
                fields++;
                field.setAccessible(true);
                if (!field.getType().isPrimitive() && field.get(object) != null) {
                    left.add(field.get(object));
                }
            }
        }
        return fields;
    }
}
