import java.lang.reflect.Array;
import java.lang.reflect.Field;
import java.lang.reflect.Modifier;
import java.util.ArrayDeque;
import java.util.Collections;
import java.util.IdentityHashMap;
import java.util.Set;

/**
 * The room that a mill takes: all calls of one run live in one, of some 600,000 objects and arrays
 * and 7.3 million fields and elements. That calls make nothing more is asked by LanguageTest.
 */
public final class RoomTest {
    private static final int MOST_OBJECTS = 1000;
    private static final int MOST_ELEMENTS = 150000;

    private static final Check CHECK = new Check("RoomTest");

    private final Set<Object> seen = Collections.newSetFromMap(new IdentityHashMap<>());
    private final ArrayDeque<Object> open = new ArrayDeque<>();
    private int elements = 0;

    public static void main(String[] args) throws IllegalAccessException {
        AffixWorks mill = new AffixWorks();
        check("a new mill", mill);
        int most = Bounds.states32Arcs160(mill);
        Mills.retype(mill, "01234012");
        mill.answers(most, false);
        mill.mended(most, 0);
        mill.apart(most, most, 0);
        check("a mill that was used", mill);
        CHECK.end();
    }

    private static void check(String what, AffixWorks mill) throws IllegalAccessException {
        RoomTest room = new RoomTest();
        room.see(mill);
        while (!room.open.isEmpty()) {
            room.count(room.open.pop());
        }
        CHECK.is(what + " is of " + room.seen.size() + " objects", true,
                room.seen.size() <= MOST_OBJECTS);
        CHECK.is(what + " is of " + room.elements + " fields and elements", true,
                room.elements <= MOST_ELEMENTS);
    }

    private void see(Object object) {
        if (object != null && seen.add(object)) {
            open.add(object);
        }
    }

    private void count(Object object) throws IllegalAccessException {
        if (object.getClass().isArray()) {
            int length = Array.getLength(object);
            elements += length;
            for (int at = 0; at < length && object instanceof Object[]; at++) {
                see(Array.get(object, at));
            }
            return;
        }
        for (Field field : object.getClass().getDeclaredFields()) {
            if (!Modifier.isStatic(field.getModifiers())) {
                elements++;
                field.setAccessible(true);
                if (!field.getType().isPrimitive()) {
                    see(field.get(object));
                }
            }
        }
    }
}
