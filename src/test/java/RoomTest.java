import java.util.ArrayDeque;
import java.util.ArrayList;
import java.util.IdentityHashMap;
import java.util.List;

/** The dearest run of 512 calls: it ends soon, and what it keeps is far below the room of a run. */
public final class RoomTest {
    public static void main(String[] args) {
        SwitchSeven x = new SwitchSeven();
        int calls = 30;
        for (int i = 0; i < 10; i++) {
            x.account(i % 8, i, -1);
            x.put(i, 99999);
            x.bank(i % 8, 0, 999);
        }
        String dear = "(((((d+1)*1+2)*1+3)*1+4)*1+5)*9999+b+t+d+d+d+d+d+d+d+d+d+d+d";
        Due.is("what is overdrawn moves on", Due.rule(x, "0", 2, 0), 1);
        for (int i = 1; i < 20; i++) {
            Due.is("a dear rule", Due.rule(x, dear.substring(0, 58), i % 4 == 0 ? 3 : 1, i), i + 1);
        }
        calls += 2 + 19 * 9;
        for (int i = 0; i < 60; i++) {
            x.line(i % 4 == 0 ? 2 : i % 4, i % 9, 9, 99999, 0, 1);
            x.late(i % 8, i);
        }
        calls += 120;
        int at = 0;
        int moved = 0;
        for (int i = 0; i < 30; i++) {
            if (x.ask(at, (x.accountOf(at, 0) + 1) % 8, false) >= 0) {
                moved++;
                x.days(x.count(0) < 60 ? 30 : 12);
                at = x.accountOf(at, 4);
            }
            calls += 4;
        }
        Due.is("a long chain", moved, 30);
        long begun = System.nanoTime();
        Due.is("the days that are left", x.days(1500 - x.count(0)), 1500);
        Due.isTrue("within ten seconds", System.nanoTime() - begun < 10_000_000_000L);
        Due.isTrue("calls of one object: " + calls, calls <= 512);
        keeps(x);
        Due.finish();
    }

    private static void keeps(SwitchSeven x) {
        long objects = 0;
        long elements = 0;
        IdentityHashMap<Object, Object> seen = new IdentityHashMap<>();
        ArrayDeque<Object> open = new ArrayDeque<>();
        open.add(x);
        while (!open.isEmpty()) {
            Object it = open.poll();
            if (seen.put(it, it) != null) {
                continue;
            }
            objects++;
            List<Object> parts = new ArrayList<>();
            elements += take(it, parts);
            open.addAll(parts);
        }
        System.out.println(objects + " objects and arrays, " + elements + " fields and elements are kept");
        Due.isTrue("few objects", objects < 10000);
        Due.isTrue("few elements", elements < 100000);
    }

    /** How many fields or elements it has; those that are objects are added to the parts. */
    private static long take(Object it, List<Object> parts) {
        if (it instanceof List<?> list) {
            parts.addAll(list);
            return list.size();
        }
        if (it.getClass().isArray()) {
            int n = java.lang.reflect.Array.getLength(it);
            for (int i = 0; i < n && it instanceof Object[]; i++) {
                if (((Object[]) it)[i] != null) {
                    parts.add(((Object[]) it)[i]);
                }
            }
            return n;
        }
        long fields = 0;
        for (java.lang.reflect.Field f : it.getClass().getDeclaredFields()) {
            if (java.lang.reflect.Modifier.isStatic(f.getModifiers())) {
                continue;
            }
            fields++;
            f.setAccessible(true);
            try {
                Object part = f.get(it);
                if (part != null && !f.getType().isPrimitive()) {
                    parts.add(part);
                }
            } catch (IllegalAccessException e) {
                throw new IllegalStateException(e);
            }
        }
        return fields;
    }
}
