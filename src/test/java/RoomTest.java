import java.lang.reflect.Array;
import java.lang.reflect.Field;
import java.lang.reflect.Modifier;
import java.util.ArrayDeque;
import java.util.Collections;
import java.util.Deque;
import java.util.IdentityHashMap;
import java.util.Set;

/** How many objects, and fields and elements, the dearest run leaves in one object: far below the room of a run. */
public final class RoomTest {
    private static final int MOST_OBJECTS = 300;
    private static final int MOST_ELEMENTS = 4000;
    private static final Checks CHECKS = new Checks();

    private static int elements;

    private RoomTest() {
    }

    public static void main(String[] args) throws IllegalAccessException {
        PromiseScopes x = fullObject();
        long objects = countFrom(x);
        CHECKS.yes(objects + " objects", objects <= MOST_OBJECTS);
        CHECKS.yes(elements + " fields and elements", elements <= MOST_ELEMENTS);
        for (int i = 0; i < 100; i++) {
            x.work(60);
            x.tick(60);
        }
        elements = 0;
        CHECKS.equal("objects behind further calls", countFrom(x), objects);
        CHECKS.end();
    }

    /** As many stages as there can be, each on all before it, and as many scopes and tasks. */
    private static PromiseScopes fullObject() {
        PromiseScopes x = new PromiseScopes();
        for (int i = 0; i < 12; i++) {
            x.open(i - 1, 0, -1);
        }
        for (int i = 0; i < 30; i++) {
            x.fork(i % 12, 50, 0, 1);
        }
        for (int made = 12; made < 48; made++) {
            x.several((1L << made) - 1, 7 + made % 2);
        }
        return x;
    }

    private static long countFrom(Object root) throws IllegalAccessException {
        Set<Object> seen = Collections.newSetFromMap(new IdentityHashMap<>());
        Deque<Object> toSee = new ArrayDeque<>();
        toSee.add(root);
        while (!toSee.isEmpty()) {
            Object each = toSee.remove();
            if (seen.add(each)) {
                addPartsOf(each, toSee);
            }
        }
        return seen.size();
    }

    private static void addPartsOf(Object whole, Deque<Object> toSee) throws IllegalAccessException {
        if (whole.getClass().isArray()) {
            elements += Array.getLength(whole);
            if (whole instanceof Object[] row) {
                for (Object part : row) {
                    addPart(part, toSee);
                }
            }
            return;
        }
        for (Field field : whole.getClass().getDeclaredFields()) {
            if (!Modifier.isStatic(field.getModifiers())) {
                elements++;
                if (!field.getType().isPrimitive()) {
                    field.setAccessible(true);
                    addPart(field.get(whole), toSee);
                }
            }
        }
    }

    private static void addPart(Object part, Deque<Object> toSee) {
        if (part != null) {
            toSee.add(part);
        }
    }
}
