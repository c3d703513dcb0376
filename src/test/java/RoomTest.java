import java.lang.management.ManagementFactory;
import java.lang.reflect.Array;
import java.lang.reflect.Field;
import java.lang.reflect.Modifier;
import java.util.Collections;
import java.util.IdentityHashMap;
import java.util.Set;

/** What a desk and its calls make: rule 12 of LANGUAGE.md, and that many desks find room in one run. */
public final class RoomTest {
    private static final Checks CHECKS = new Checks("RoomTest");
    private static final com.sun.management.ThreadMXBean THREADS =
            (com.sun.management.ThreadMXBean) ManagementFactory.getThreadMXBean();

    private final Set<Object> seen = Collections.newSetFromMap(new IdentityHashMap<>());
    private int elements;

    public static void main(String[] args) throws IllegalAccessException {
        aDeskIsSmall();
        noCallMakesAnObject();
        CHECKS.end();
    }

    private static void aDeskIsSmall() throws IllegalAccessException {
        RoomTest room = new RoomTest();
        room.count(new ScaledNumeralDesk());
        CHECKS.same(room.seen.size() + " objects and arrays are fewer than 100", room.seen.size() < 100, true);
        CHECKS.same(room.elements + " fields and elements are fewer than 1200", room.elements < 1200, true);
    }

    private void count(Object thing) throws IllegalAccessException {
        if (thing == null || !seen.add(thing)) {
            return;
        }
        Class<?> type = thing.getClass();
        if (type.isArray()) {
            elements += Array.getLength(thing);
            for (int i = 0; i < Array.getLength(thing) && !type.getComponentType().isPrimitive(); i++) {
                count(Array.get(thing, i));
            }
            return;
        }
        for (Field field : type.getDeclaredFields()) {
            if (!Modifier.isStatic(field.getModifiers())) {
                elements++;
                countField(thing, field);
            }
        }
    }

    private void countField(Object thing, Field field) throws IllegalAccessException {
        // The library's own classes are closed to reflection; a text is one object here.
        if (field.getType().isPrimitive() || field.getType() == String.class) {
            return;
        }
        field.setAccessible(true);
        count(field.get(thing));
    }

    /** The first rounds load classes, and a round may be disturbed: the least of some says what the calls make. */
    private static void noCallMakesAnObject() {
        long least = Long.MAX_VALUE;
        for (int round = 0; round < 40; round++) {
            ScaledNumeralDesk desk = new ScaledNumeralDesk();
            long before = made();
            everyCall(desk);
            least = Math.min(least, made() - before);
        }
        CHECKS.same("bytes made by calls of each kind", least, 0L);
    }

    private static long made() {
        return THREADS.getThreadAllocatedBytes(Thread.currentThread().getId());
    }

    private static final String[] TEXTS = {"-12.345", "9e31", "1e-24", "-inf", "NaN", "+Infinity", "1x", "1e99", "7"};

    private static void everyCall(ScaledNumeralDesk desk) {
        for (int i = 0; i < TEXTS.length; i++) {
            for (int place = 0; place < TEXTS[i].length(); place++) {
                desk.type(TEXTS[i].charAt(place));
            }
            desk.enter(i % 8);
            desk.length(i);
            desk.character(i, 2);
            desk.scale(i);
        }
        for (int op = 0; op < 7; op++) {
            for (int a = 0; a < 8; a += 2) {
                desk.apply(op, 7, a, 1);
                desk.apply(op, 7, 1, a + 1);
                desk.adjust(op, 7, a, 3);
                desk.compare(a, 1);
            }
        }
        sumCalls(desk);
        desk.fit(0, 5, 2);
        desk.fit(1, 5, 2);
    }

    private static void sumCalls(ScaledNumeralDesk desk) {
        for (int k = 0; k < 4; k++) {
            for (int r = 2 * k; r < 2 * k + 2; r++) {
                desk.accept(k, r);
                desk.discard(k, r);
                desk.accept(k, r);
            }
            desk.merge(k, k);
            desk.count(k);
            desk.total(7, k);
            desk.average(7, k);
            desk.merge(3 - k, k);
        }
        desk.reset(0);
    }
}
