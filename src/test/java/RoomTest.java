import java.lang.reflect.Array;
import java.lang.reflect.Field;
import java.lang.reflect.Modifier;
import java.util.IdentityHashMap;
import java.util.Map;

/**
 * What an object holds: all books of a run share one room, so a book is small
 * from the start and its calls leave nothing behind in it.
 */
public final class RoomTest {
    /** A thousand books of this size fill a sixth of the room. */
    private static final int MOST_OBJECTS = 100;
    private static final int MOST_NUMBERS = 1200;

    private final Map<Object, Boolean> seen = new IdentityHashMap<>();
    private int numbers = 0;

    public static void main(String[] args) throws IllegalAccessException {
        Check check = new Check("RoomTest");
        DockBook book = new DockBook();
        RoomTest before = heldBy(book);
        check.same(before.seen.size() + " objects are few", before.seen.size() <= MOST_OBJECTS, true);
        check.same(before.numbers + " fields and elements are few", before.numbers <= MOST_NUMBERS, true);
        useFully(book);
        RoomTest after = heldBy(book);
        check.same("objects behind many calls", after.seen.size(), before.seen.size());
        check.same("fields and elements behind many calls", after.numbers, before.numbers);
        check.finish();
    }

    private static RoomTest heldBy(DockBook book) throws IllegalAccessException {
        RoomTest room = new RoomTest();
        room.walk(book);
        return room;
    }

    /** Doors, trucks and plans of both forms, some 450 calls. */
    private static void useFully(DockBook book) {
        for (int i = 0; i < 4; i++) {
            book.door(255, 0, 2000);
        }
        for (int i = 0; i < 12; i++) {
            book.truck(i % 8, i, 1 + i, 1 + i % 9);
            book.assign(5);
        }
        for (int i = 0; i < 200; i++) {
            book.assign(i % 6);
            if (i == 100) {
                for (int truck = 0; truck < 8; truck++) {
                    book.cancel(truck);
                }
            }
            book.late(8 + i % 4, i);
        }
    }

    private void walk(Object held) throws IllegalAccessException {
        if (held == null || seen.put(held, true) != null) {
            return;
        }
        if (held.getClass().isArray()) {
            walkElements(held);
        } else {
            walkFields(held);
        }
    }

    private void walkElements(Object array) throws IllegalAccessException {
        numbers += Array.getLength(array);
        boolean plain = array.getClass().getComponentType().isPrimitive();
        for (int i = 0; !plain && i < Array.getLength(array); i++) {
            walk(Array.get(array, i));
        }
    }

    private void walkFields(Object held) throws IllegalAccessException {
        for (Field field : held.getClass().getDeclaredFields()) {
            if (!Modifier.isStatic(field.getModifiers())) {
                numbers++;
                field.setAccessible(true);
                if (!field.getType().isPrimitive()) {
                    walk(field.get(held));
                }
            }
        }
    }
}
