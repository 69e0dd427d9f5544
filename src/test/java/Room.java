import java.lang.management.ManagementFactory;
import java.lang.reflect.Array;
import java.lang.reflect.Field;
import java.lang.reflect.Modifier;
import java.util.ArrayDeque;
import java.util.Collections;
import java.util.Deque;
import java.util.IdentityHashMap;
import java.util.Set;

/** All rows are made with the object and used again: it is small, and calls make next to nothing. */
public final class Room {
    private static int wrong = 0;
    private static long sum = 0;

    private static void atMost(String what, long got, long most) {
        if (got > most) {
            wrong++;
            System.out.println(what + ": " + got + ", at most " + most);
        }
    }

    private static void sizes() throws Exception {
        Set<Object> seen = Collections.newSetFromMap(new IdentityHashMap<>());
        Deque<Object> open = new ArrayDeque<>();
        open.add(new GateTurns());
        long elements = 0;
        while (!open.isEmpty()) {
            Object o = open.pop();
            if (!seen.add(o)) {
                continue;
            }
            if (o.getClass().isArray()) {
                elements += Array.getLength(o);
                for (int i = 0; i < Array.getLength(o) && !o.getClass().getComponentType().isPrimitive(); i++) {
                    open.push(Array.get(o, i));
                }
                continue;
            }
            for (Field f : o.getClass().getDeclaredFields()) {
                if (!Modifier.isStatic(f.getModifiers())) {
                    elements++;
                    f.setAccessible(true);
                    if (!f.getType().isPrimitive()) {
                        open.push(f.get(o));
                    }
                }
            }
        }
        atMost("objects and arrays of a new object", seen.size(), 200);
        atMost("their fields and elements", elements, 12000);
    }

    private static void feedAll(GateTurns x, String text) {
        for (int i = 0; i < text.length(); i++) {
            sum += x.feed(text.charAt(i));
        }
    }

    private static void dear(GateTurns x) {
        String[] texts = {"enter 0;add 0 1;leave 0;jump 0", "enter 0;enter 1;add 1 1;wait 0;jump 0",
            "enter 1;enter 0;all 0;leave 0;leave 1;jump 0", "enter 2;add 9 1"};
        for (int t = 0; t < 4; t++) {
            sum += x.task();
            feedAll(x, texts[t]);
            sum += x.program(t);
        }
        sum += x.condition(0, 0, 3) + x.list(0, 40) + x.image();
        for (int n = 0; n < 40; n++) {
            sum += x.run(n % 3, 1) + x.found(0) + x.schedule(1, 0) + x.lay(1, 0, 0) + x.outcome(0, 0) + x.round();
            sum += x.follow(0, 0, 3) + x.under(0) + x.back() + x.holds() + x.cause(0, 0);
        }
    }

    private static void calls() {
        com.sun.management.ThreadMXBean threads =
                (com.sun.management.ThreadMXBean) ManagementFactory.getThreadMXBean();
        long id = Thread.currentThread().getId();
        dear(new GateTurns());
        GateTurns x = new GateTurns();
        threads.getThreadAllocatedBytes(id);
        long before = threads.getThreadAllocatedBytes(id);
        dear(x);
        atMost("bytes that some 500 calls made", threads.getThreadAllocatedBytes(id) - before, 20000);
    }

    public static void main(String[] args) throws Exception {
        sizes();
        calls();
        System.out.println(wrong == 0 ? "the room suffices" : "the room does not suffice");
        if (wrong != 0) {
            System.exit(1);
        }
    }
}
