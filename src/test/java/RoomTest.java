import java.lang.management.ManagementFactory;
import java.lang.reflect.Array;
import java.lang.reflect.Field;
import java.lang.reflect.Modifier;
import java.util.ArrayList;
import java.util.Collections;
import java.util.IdentityHashMap;
import java.util.List;
import java.util.Set;

/**
 * All calls of one run live in one room, from which nothing goes: so what the dearest call makes, taken as often as
 * an object is used, must stay below it. That is the constructor, of which objects and elements are counted; what the
 * others make is measured in bytes, of which an element has at least one.
 */
public final class RoomTest {
    private static final int CALLS = 512;
    private static final long MOST_OF_RUN = 2_000_000;
    private static final long ROOM_OBJECTS = 600_000;
    private static final long ROOM_ELEMENTS = 7_300_000;

    private interface Call {
        void go(Quakebook x);
    }

    private static int wrong;
    private static long dearest;

    private static long bytes() {
        return ((com.sun.management.ThreadMXBean) ManagementFactory.getThreadMXBean())
                .getThreadAllocatedBytes(Thread.currentThread().getId());
    }

    /** Ten SHOCKS, all heard through a rough ground, and as many layers in the equations as there are. */
    static Quakebook full() {
        Quakebook x = new Quakebook();
        for (int k = 0; k < 96; k++) {
            x.slow(k, 0, 1 + k * 7 % 9);
            x.slow(k, 1, 1 + k * 5 % 9);
        }
        x.slip(9);
        int[] cells = {0, 95, 40, 77, 18, 6};
        for (int cell : cells) {
            x.station(cell);
        }
        for (int shock = 0; shock < 10; shock++) {
            x.tell(90 - 9 * shock, 100 + 900 * shock, 9999 - shock, 999 - 2 * shock);
        }
        for (int k = 0; k < 24; k++) {
            int shock = k % 10;
            int minute = x.ofShock(shock, 1) + x.time(cells[k % 6], x.ofShock(shock, 0), k / 12);
            x.arrive(k % 6, k / 12, minute + k % 7 - 3, 1 + k * 41 % 999);
        }
        for (int k = 0; k < 4; k++) {
            x.rule(k, 1 + k, k, 11 - k);
        }
        return x;
    }

    /** How many objects and arrays an object holds, and how many fields and elements these have. */
    private static long[] countAll(Object from) {
        Set<Object> seen = Collections.newSetFromMap(new IdentityHashMap<>());
        List<Object> open = new ArrayList<>(List.of(from));
        seen.add(from);
        long elements = 0;
        for (int k = 0; k < open.size(); k++) {
            Object o = open.get(k);
            List<Object> held = new ArrayList<>();
            if (o.getClass().isArray()) {
                elements += Array.getLength(o);
                for (int at = 0; o instanceof Object[] && at < Array.getLength(o); at++) {
                    held.add(Array.get(o, at));
                }
            } else if (o.getClass().getName().startsWith("Quakebook")) {
                elements += fieldsOf(o, held);
            } else {
                // A text or StringBuilder, whose inside is not open.
                elements += 32;
            }
            for (Object h : held) {
                if (h != null && seen.add(h)) {
                    open.add(h);
                }
            }
        }
        return new long[] {seen.size(), elements};
    }

    private static int fieldsOf(Object o, List<Object> held) {
        int many = 0;
        for (Field f : o.getClass().getDeclaredFields()) {
            if (Modifier.isStatic(f.getModifiers())) {
                continue;
            }
            many++;
            if (!f.getType().isPrimitive()) {
                f.setAccessible(true);
                try {
                    held.add(f.get(o));
                } catch (IllegalAccessException e) {
                    throw new IllegalStateException(e);
                }
            }
        }
        return many;
    }

    private static void room(String name, Call call) {
        Quakebook x = full();
        call.go(x);
        long before = bytes();
        for (int k = 0; k < CALLS - 1; k++) {
            call.go(x);
        }
        long used = bytes() - before;
        dearest = Math.max(dearest, used);
        if (used > MOST_OF_RUN) {
            wrong++;
            System.out.println("  FAILED " + name + " makes " + used + " bytes in " + CALLS + " calls");
        }
    }

    public static void main(String[] args) {
        Quakebook x = new Quakebook();
        long[] one = countAll(x);
        if (one[0] * CALLS > ROOM_OBJECTS || one[1] * CALLS > ROOM_ELEMENTS) {
            wrong++;
            System.out.println("  FAILED " + CALLS + " objects have no room");
        }
        Quakebook y = full();
        if (y.count(4) != 10 || y.count(3) > 8 || y.made(0).length() < 20 || x.count(4) != 0) {
            wrong++;
            System.out.println("  FAILED the full book is not full: " + y.count(3) + " left, made " + y.made(0));
        }
        room("digest", Quakebook::digest);
        room("isSound", Quakebook::isSound);
        room("made", b -> b.made(0));
        room("left", b -> b.left(0));
        room("slope", b -> b.slope(0, 1));
        room("book", Quakebook::book);
        room("clusters", b -> b.clusters(1, 1));
        room("way", b -> b.way(0, 95, 0));
        room("possible", b -> b.possible(1));
        room("bad", b -> b.bad(0xFFFFFF));
        room("misfit", b -> b.misfit(0xFFFFFF));
        room("slow", b -> b.slow(5, 0, 5));
        room("undo", b -> {
            b.slip(0);
            b.undo();
        });
        room("gather", b -> {
            b.drop(0);
            b.gather(2);
        });
        room("merge", b -> b.merge(18, 9999));
        System.out.println("RoomTest: an object has " + one[0] + " objects and " + one[1] + " elements, " + CALLS + " of the dearest calls make " + dearest
                + ", " + wrong + " wrong");
        if (wrong > 0) {
            System.exit(1);
        }
    }
}
