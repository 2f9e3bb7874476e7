import java.lang.reflect.Array;
import java.lang.reflect.Field;
import java.lang.reflect.Modifier;
import java.util.ArrayDeque;
import java.util.Collections;
import java.util.Deque;
import java.util.IdentityHashMap;
import java.util.Set;

/** "Terms": a desk's memory, found by following its fields, whatever they are. */
public final class MemoryTest {
    private static final String WORDS = "All memory is the desk's own, made once";
    private static final Answers ANSWERS = new Answers();

    public static void main(String[] args) throws IllegalAccessException {
        theDesksOwn();
        madeOnce();
        ANSWERS.end();
    }

    private static void theDesksOwn() throws IllegalAccessException {
        ANSWERS.says(WORDS);
        MotionDesk one = new MotionDesk(48);
        MotionDesk other = new MotionDesk(48);
        useAll(one);
        useAll(other);
        Set<Object> both = heldBy(one);
        both.retainAll(heldBy(other));
        ANSWERS.due("objects and arrays that two desks share", both.size(), 0);
    }

    private static void madeOnce() throws IllegalAccessException {
        ANSWERS.says(WORDS);
        int[] counts = {1, 48};
        for (int nodes : counts) {
            MotionDesk desk = new MotionDesk(nodes);
            Set<Object> first = heldBy(desk);
            useAll(desk);
            Set<Object> then = heldBy(desk);
            ANSWERS.due("objects and arrays of a used desk", then.size(), first.size());
            ANSWERS.due("all of them were there at first", first.containsAll(then), true);
        }
    }

    /** 489 calls, past the 32 tracks, a full text, and some that are refused. */
    private static void useAll(MotionDesk desk) {
        for (int k = 0; k < 50; k++) {
            desk.key(k, k, k, k);
            desk.key(k + 100, -k, -k, -k);
            desk.track(0, k % 3, k % 4);
            desk.set(0, k % 4, k, k, k);
            desk.time(3 * k - 1);
            desk.value(0, k % 4, k % 4);
            desk.count(k % 6);
            desk.about(k, k % 5);
            if (k == 45) {
                desk.clear();
            }
        }
        for (int k = 0; k < 88; k++) {
            desk.key(k, k, k, k);
        }
    }

    /** By identity; the library's own objects are held, but not looked into. */
    private static Set<Object> heldBy(MotionDesk desk) throws IllegalAccessException {
        Set<Object> held = Collections.newSetFromMap(new IdentityHashMap<>());
        Deque<Object> open = new ArrayDeque<>();
        open.add(desk);
        while (!open.isEmpty()) {
            Object next = open.remove();
            if (held.add(next)) {
                addParts(next, open);
            }
        }
        return held;
    }

    private static void addParts(Object whole, Deque<Object> open) throws IllegalAccessException {
        Class<?> kind = whole.getClass();
        if (kind.isArray() && !kind.getComponentType().isPrimitive()) {
            for (int k = 0; k < Array.getLength(whole); k++) {
                addPart(Array.get(whole, k), open);
            }
        }
        if (kind.getName().startsWith("MotionDesk")) {
            for (Field field : kind.getDeclaredFields()) {
                if (!Modifier.isStatic(field.getModifiers()) && !field.getType().isPrimitive()) {
                    field.setAccessible(true);
                    addPart(field.get(whole), open);
                }
            }
        }
    }

    private static void addPart(Object part, Deque<Object> open) {
        if (part != null) {
            open.add(part);
        }
    }
}
