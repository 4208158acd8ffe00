import java.lang.reflect.Array;
import java.lang.reflect.Field;
import java.lang.reflect.Modifier;
import java.util.ArrayDeque;
import java.util.Collections;
import java.util.Deque;
import java.util.IdentityHashMap;
import java.util.Set;

/** LANGUAGE.md, rule 12: what an object takes in the room, and that it takes no more behind its calls. */
public final class RoomTest {
    /** Of the some 600,000 objects and 7,300,000 fields and elements that all calls of a run have. */
    private static final int MOST_OBJECTS = 300, MOST_ELEMENTS = 10000;
    private int objects;
    private int elements;

    public static void main(String[] args) throws IllegalAccessException {
        SeizedGoods goods = new SeizedGoods();
        RoomTest first = new RoomTest();
        first.count(goods);
        Check.dueTrue(first.objects + " objects", first.objects > 1 && first.objects <= MOST_OBJECTS);
        Check.dueTrue(first.elements + " fields and elements", first.elements <= MOST_ELEMENTS);
        Made.crowded(goods);
        foretell(goods);
        RoomTest later = new RoomTest();
        later.count(goods);
        Check.due("objects behind calls", later.objects, first.objects);
        Check.due("fields and elements behind calls", later.elements, first.elements);
        Check.end();
    }

    private static void foretell(SeizedGoods goods) {
        for (int k = 0; k < 3; k++) {
            goods.grown(30, k);
            goods.net(k);
            goods.reform(10 - k);
            goods.rest(k - 1);
            goods.opened(k, 3);
            goods.way(k, 3);
            goods.asks(k, 1);
            goods.image(k & 1);
            goods.restore(k & 1);
            goods.sheet(k, 2, 40);
            Check.read(goods, Made.TEXT);
        }
    }

    private void count(Object root) throws IllegalAccessException {
        Set<Object> seen = Collections.newSetFromMap(new IdentityHashMap<>());
        Deque<Object> open = new ArrayDeque<>();
        open.add(root);
        while (!open.isEmpty()) {
            Object next = open.remove();
            if (!seen.add(next)) {
                continue;
            }
            objects++;
            if (next.getClass().isArray()) {
                openArray(next, open);
            } else {
                openFields(next, open);
            }
        }
    }

    private void openArray(Object array, Deque<Object> open) {
        int length = Array.getLength(array);
        elements += length;
        for (int k = 0; k < length && !array.getClass().getComponentType().isPrimitive(); k++) {
            if (Array.get(array, k) != null) {
                open.add(Array.get(array, k));
            }
        }
    }

    private void openFields(Object object, Deque<Object> open) throws IllegalAccessException {
        for (Field field : object.getClass().getDeclaredFields()) {
            if (Modifier.isStatic(field.getModifiers())) {
                continue;
            }
            elements++;
            field.setAccessible(true);
            if (!field.getType().isPrimitive() && field.get(object) != null) {
                open.add(field.get(object));
            }
        }
    }
}
