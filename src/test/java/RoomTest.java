import com.sun.management.ThreadMXBean;
import java.lang.management.ManagementFactory;
import java.lang.reflect.Array;
import java.lang.reflect.Field;
import java.lang.reflect.Modifier;
import java.util.ArrayDeque;
import java.util.Collections;
import java.util.Deque;
import java.util.IdentityHashMap;
import java.util.Set;

/** All calls of one run live in one room: a new object takes a small part of it, and no call takes more. */
public final class RoomTest {
    private static final int CALLS = 512;
    private static final int ROOM_OBJECTS = 600000;
    private static final int ROOM_ELEMENTS = 7300000;
    private static final Check CHECK = new Check();

    private int objects;
    private int elements;

    public static void main(String[] args) throws IllegalAccessException {
        BoardSums x = new BoardSums();
        RoomTest first = measured(x);
        System.out.println("a new object: " + first.objects + " objects, " + first.elements + " fields and elements");
        // Were every call of a run the making of a new object, the room would still hold them.
        CHECK.due("objects of one", first.objects <= ROOM_OBJECTS / CALLS ? 1 : 0, 1);
        CHECK.due("elements of one", first.elements <= ROOM_ELEMENTS / CALLS ? 1 : 0, 1);
        useEveryCall(x);
        RoomTest later = measured(x);
        CHECK.due("objects after calls", later.objects, first.objects);
        CHECK.due("elements after calls", later.elements, first.elements);
        callsMakeNothing();
        CHECK.end();
    }

    private static RoomTest measured(BoardSums x) throws IllegalAccessException {
        RoomTest room = new RoomTest();
        Set<Object> seen = Collections.newSetFromMap(new IdentityHashMap<>());
        Deque<Object> open = new ArrayDeque<>();
        open.add(x);
        while (!open.isEmpty()) {
            Object o = open.remove();
            if (seen.add(o)) {
                room.objects++;
                room.enter(o, open);
            }
        }
        return room;
    }

    private void enter(Object o, Deque<Object> open) throws IllegalAccessException {
        if (o.getClass().isArray()) {
            elements += Array.getLength(o);
            for (int i = 0; !o.getClass().getComponentType().isPrimitive() && i < Array.getLength(o); i++) {
                open.add(Array.get(o, i));
            }
            return;
        }
        for (Field f : o.getClass().getDeclaredFields()) {
            if (!Modifier.isStatic(f.getModifiers())) {
                elements++;
                f.setAccessible(true);
                if (!f.getType().isPrimitive()) {
                    open.add(f.get(o));
                }
            }
        }
    }

    private static int useEveryCall(BoardSums x) {
        int sum = x.size(12, 12);
        sum += x.feed(0x613D7368, 0x65657420, 0x303B623D, 0x6E656172, 0x20332073);
        sum += x.feed(0x756D2061, 0x3B633D7A, 0x6F6E6520, 0x636F756E, 0x74206120);
        sum += x.feed(0x623B643D, 0x77617920, 0x6120633B, 0x653D666C, 0x6F772064);
        sum += x.end(60);
        sum += x.boards();
        for (int i = 0; i < 12; i++) {
            sum += x.tell(0, i, i, i) + x.cell(4, i, i) + x.image(i % 3) + x.back(i % 4);
            sum += x.told(0, i, i) + x.fresh(i, i) + x.from(i, i, i % 4) + x.count(i) + x.made();
        }
        return sum + x.fault() + x.status() + x.boards();
    }

    /** What the machine itself makes while it warms up falls away in some round; what a call makes never does. */
    private static void callsMakeNothing() {
        BoardSums x = new BoardSums();
        CHECK.due("the text stands", useEveryCall(x) != 0 && x.count(2) == 5 ? 1 : 0, 1);
        ThreadMXBean threads = (ThreadMXBean) ManagementFactory.getThreadMXBean();
        long least = Long.MAX_VALUE;
        for (int round = 0; round < 50; round++) {
            BoardSums y = new BoardSums();
            long before = threads.getCurrentThreadAllocatedBytes();
            useEveryCall(y);
            least = Math.min(least, threads.getCurrentThreadAllocatedBytes() - before);
        }
        CHECK.due("bytes that calls make", (int) Math.min(least, Integer.MAX_VALUE), 0);
    }
}
