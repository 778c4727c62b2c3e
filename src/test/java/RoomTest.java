import java.lang.management.ManagementFactory;
import java.lang.reflect.Array;
import java.lang.reflect.Field;
import java.lang.reflect.Modifier;
import java.util.ArrayDeque;
import java.util.IdentityHashMap;
import java.util.Map;

/** How much room an object takes, and that its calls take none: all calls of a run live in one room. */
public final class RoomTest {
    private static final int MOST_OBJECTS = 400;
    private static final int MOST_PLACES = 8000;

    public static void main(String[] args) throws Exception {
        anObject();
        itsCalls();
        Check.finish();
    }

    private static void anObject() throws Exception {
        Map<Object, Boolean> seen = new IdentityHashMap<>();
        ArrayDeque<Object> open = new ArrayDeque<>();
        BetweenThem x = new BetweenThem();
        seen.put(x, true);
        open.add(x);
        int places = 0;
        while (!open.isEmpty()) {
            Object o = open.remove();
            if (o.getClass().isArray()) {
                places += Array.getLength(o);
                for (int i = 0; i < Array.getLength(o) && !o.getClass().getComponentType().isPrimitive(); i++) {
                    note(Array.get(o, i), seen, open);
                }
                continue;
            }
            for (Field f : o.getClass().getDeclaredFields()) {
                if (!Modifier.isStatic(f.getModifiers())) {
                    places++;
                    f.setAccessible(true);
                    if (!f.getType().isPrimitive()) {
                        note(f.get(o), seen, open);
                    }
                }
            }
        }
        Check.due(seen.size() + " objects are few", seen.size() <= MOST_OBJECTS, true);
        Check.due(places + " fields and elements are few", places <= MOST_PLACES, true);
    }

    private static void note(Object o, Map<Object, Boolean> seen, ArrayDeque<Object> open) {
        if (o != null && !(o instanceof Enum) && seen.put(o, true) == null) {
            open.add(o);
        }
    }

    /** Where the machine tells what a thread has taken; elsewhere nothing is asked. */
    private static void itsCalls() {
        if (!(ManagementFactory.getThreadMXBean() instanceof com.sun.management.ThreadMXBean)) {
            return;
        }
        com.sun.management.ThreadMXBean bean = (com.sun.management.ThreadMXBean) ManagementFactory.getThreadMXBean();
        if (!bean.isThreadAllocatedMemorySupported() || !bean.isThreadAllocatedMemoryEnabled()) {
            return;
        }
        BetweenThem x = Check.on("line 100;body 2;keeps 9;walker ann 0 1;walker bob 60 2 back;walker cid 97 0;"
                + "dog rex ann 10 1 other;dog pip cid 5 0 near;tires pip 3;");
        dearCalls(x);
        long id = Thread.currentThread().getId();
        long before = bean.getThreadAllocatedBytes(id);
        for (int i = 0; i < 8; i++) {
            dearCalls(x);
        }
        long taken = bean.getThreadAllocatedBytes(id) - before;
        Check.due("the calls took " + taken + " bytes", taken < 4096, true);
    }

    private static void dearCalls(BetweenThem x) {
        x.odds(0, 30, 5);
        x.least(0, 0);
        x.runs(1, 1);
        x.meet(0, 2);
        x.strays();
        x.run(0, 60);
        x.turns(1, 60);
        x.next(0);
        x.near(0, 1, 99, 6, 0);
        x.round(1);
        x.circle(0);
        x.stop(0);
        x.walk(0);
        x.throwStick(1);
        x.seconds(5);
        x.drawn(5, 7);
        x.undo();
        x.image(0);
        x.feed(0x00010200, 0x01020001, 0, 0, 0);
        x.end(8);
        x.judge(0);
        x.feed(0x00010200, 0x01020001, 0, 0, 0);
        x.end(8);
        x.laws();
        x.feed(0x00010200, 0x01020001, 0, 0, 0);
        x.end(8);
        x.prints();
        // 'second 5;' and 'stands or hangs'
        x.feed(0x7365636F, 0x6E642035, 0x3B202020, 0x20202020, 0x20202020);
        x.log(1);
        x.feed(0x7374616E, 0x6473206F, 0x72206861, 0x6E677320, 0x20202020);
        x.sentence();
        x.told(0);
        x.restore(0);
    }
}
