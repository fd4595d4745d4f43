import java.lang.reflect.Array;
import java.lang.reflect.Field;
import java.lang.reflect.Modifier;
import java.util.ArrayDeque;
import java.util.Collections;
import java.util.Deque;
import java.util.IdentityHashMap;
import java.util.Set;

/** The room that an object takes: little, and no more after its last call than when it was made. */
public final class RoomTest {
    private static final int OBJECTS = 150;
    private static final int FIELDS_AND_ELEMENTS = 3600;

    public static void main(String[] args) throws IllegalAccessException {
        aNewObjectIsSmall();
        callsKeepNothing();
        Probe.end();
    }

    private static void aNewObjectIsSmall() throws IllegalAccessException {
        int[] room = room(new MailGuard());
        Probe.due("objects and arrays at most " + OBJECTS + " (" + room[0] + ")", room[0] <= OBJECTS, true);
        Probe.due("fields and elements at most " + FIELDS_AND_ELEMENTS + " (" + room[1] + ")",
            room[1] <= FIELDS_AND_ELEMENTS, true);
    }

    /** Every level of a check is used, and every place of the table more than once. */
    private static void callsKeepNothing() throws IllegalAccessException {
        Probe probe = new Probe();
        int[] before = room(probe.guard());
        for (int round = 0; round < 4; round++) {
            fill(probe);
            probe.checks("1.1.1.1", "c.e", "2 2 0 1 1 x.e");
            probe.checks("1.1.1.1", "d.e", "6 10 0 -1 11 d.e");
            probe.says(99, "a.b.d.e", 2, "_dmarc.d.e");
            for (int k = 0; k < 16; k++) {
                Probe.due("drop(0)", probe.guard().drop(0), true);
            }
        }
        int[] after = room(probe.guard());
        Probe.due("objects and arrays after " + probe.calls() + " calls", after[0], before[0]);
        Probe.due("fields and elements after " + probe.calls() + " calls", after[1], before[1]);
    }

    private static void fill(Probe probe) {
        probe.row(2, "d.e v=spf1 include:%{d}");
        probe.row(2, "c.e v=spf1 a:%{i}.%{or} mx");
        probe.row(0, "1.1.1.1.e.c 9.9.9.9");
        probe.row(1, "c.e x.e");
        probe.row(0, "x.e 1.1.1.1");
        probe.row(2, "_dmarc.d.e v=DMARC1; p=reject; sp=quarantine; pct=99");
        for (int k = 6; k < 16; k++) {
            Probe.due("row " + k, probe.row(4, "e"), k + 1);
        }
    }

    /** How many objects and arrays there are from the root on, and how many fields and elements they have. */
    private static int[] room(Object root) throws IllegalAccessException {
        Set<Object> seen = Collections.newSetFromMap(new IdentityHashMap<>());
        Deque<Object> open = new ArrayDeque<>();
        int[] room = new int[2];
        open.add(root);
        seen.add(root);
        while (!open.isEmpty()) {
            Object object = open.remove();
            room[0]++;
            if (object.getClass().isArray()) {
                room[1] += elements(object, seen, open);
            } else {
                room[1] += fields(object, seen, open);
            }
        }
        return room;
    }

    private static int elements(Object array, Set<Object> seen, Deque<Object> open) {
        int length = Array.getLength(array);
        if (!array.getClass().getComponentType().isPrimitive()) {
            for (int i = 0; i < length; i++) {
                meet(Array.get(array, i), seen, open);
            }
        }
        return length;
    }

    private static int fields(Object object, Set<Object> seen, Deque<Object> open) throws IllegalAccessException {
        int count = 0;
        for (Field field : object.getClass().getDeclaredFields()) {
            if (!Modifier.isStatic(field.getModifiers())) {
                count++;
                if (!field.getType().isPrimitive()) {
                    field.setAccessible(true);
                    meet(field.get(object), seen, open);
                }
            }
        }
        return count;
    }

    private static void meet(Object object, Set<Object> seen, Deque<Object> open) {
        if (object != null && seen.add(object)) {
            open.add(object);
        }
    }
}
