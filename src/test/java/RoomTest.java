import java.lang.management.ManagementFactory;
import java.lang.reflect.Array;
import java.lang.reflect.Field;
import java.lang.reflect.Modifier;
import java.util.IdentityHashMap;
import java.util.Map;

/**
 * What one object takes of the room that all calls of a run live in: its rows are made once, and calls make nothing. Making an
 * object is the dearest call: even a run of such calls alone has room.
 */
public final class RoomTest {
    private static final int CALLS = 512, ROOM_OF_OBJECTS = 600000, ROOM_OF_ELEMENTS = 7300000;
    private static final Map<Object, Object> SEEN = new IdentityHashMap<>();
    private static long elements;

    public static void main(String[] args) throws Exception {
        weigh(new LawfulSums());
        Due.holds("an object has " + SEEN.size() + " objects in it", SEEN.size() * CALLS < ROOM_OF_OBJECTS);
        Due.holds("an object has " + elements + " fields and elements", elements * CALLS < ROOM_OF_ELEMENTS);
        callsMakeNothing();
        Due.end("RoomTest");
    }

    private static void weigh(Object o) throws Exception {
        if (o == null || SEEN.put(o, o) != null) {
            return;
        }
        if (o.getClass().isArray()) {
            elements += Array.getLength(o);
            for (int i = 0; !o.getClass().getComponentType().isPrimitive() && i < Array.getLength(o); i++) {
                weigh(Array.get(o, i));
            }
            return;
        }
        for (Field f : o.getClass().getDeclaredFields()) {
            if (!Modifier.isStatic(f.getModifiers())) {
                elements++;
                f.setAccessible(true);
                if (!f.getType().isPrimitive()) {
                    weigh(f.get(o));
                }
            }
        }
    }

    private static long made() {
        return ((com.sun.management.ThreadMXBean) ManagementFactory.getThreadMXBean()).getThreadAllocatedBytes(Thread.currentThread().getId());
    }

    private static void callsMakeNothing() {
        LawfulSums x = new LawfulSums();
        for (int i = 0; i < 16; i++) {
            x.coin(2 + i, 9);
        }
        made();
        long before = made();
        long sum = 0;
        for (int i = 0; i < 20; i++) {
            sum += dear(x, i);
        }
        long bytes = made() - before;
        Due.holds("620 calls made " + bytes + " bytes", bytes < 20000 && sum != 1);
    }

    private static long dear(LawfulSums x, int i) {
        x.force(i % 4);
        long sum = x.fewest(1999, 0) + x.counted(400, 5) + x.coins(1999, 7) + x.shares(599, 4, 0) + x.many(0, 100000)
            + x.gap(0, 100000, 1) + x.third(99999) + x.chosen(0, 2000, 0) + x.next(1000000000, 2) + x.part(999966, 289)
            + x.proof(999999937) + x.parts(999999937, 0) + x.look(999999937, 11) + x.rent(10000, 30) + x.change(1999);
        x.feed(4, 0x70707070);
        x.seller();
        for (int ab = 1; ab < 8; ab++) {
            x.debt(ab, ab * i + 4);
            x.debt(10 * ab + ab % 7 + (ab == 7 ? 0 : 1), i + ab);
        }
        sum += x.round() + x.struck() + x.settle(1) + x.judge() + x.undo() + x.redo();
        x.body(i % 8);
        x.row(i % 6, 3, 60);
        x.keep((i + 1) % 6, 0);
        return sum + x.act(i, 3, i) + x.looked(i % 6, 0, 60) + x.shift(i % 6, 0, i % 6, 1, 59) + x.taken(1, 0) + x.count(6);
    }
}
