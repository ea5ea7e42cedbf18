import java.lang.management.ManagementFactory;
import java.lang.reflect.Array;
import java.lang.reflect.Field;
import java.lang.reflect.Modifier;
import java.util.IdentityHashMap;
import java.util.Map;

/** All that a run makes lives in one room: 600,000 objects, 7.3 million fields and elements. */
public final class RoomTest {
    private static final long CALLS = 512;
    private static final long MOST_OBJECTS = 600_000 / CALLS;
    private static final long MOST_ELEMENTS = 7_300_000 / CALLS;
    private static final String TEXT =
            "campaign a from 0 until 9;want 3 in 0 worth 5;bar near 1;refund 50 if (shown+1)*2<late;end "
            + "campaign b from 0 until 9;want 2 in 0 worth 6;beside a;end           ";
    private static int wrong = 0;
    private static long answers = 0;

    public static void main(String[] args) throws Exception {
        PasteHouse house = new PasteHouse();
        weigh(house, "a new object");
        work(house);
        weigh(house, "a used object");
        work(new PasteHouse());
        PasteHouse fresh = new PasteHouse();
        long before = allocated();
        long idle = allocated() - before;
        before = allocated();
        work(fresh);
        long made = allocated() - before - idle;
        // The machine's own bookkeeping may add a little; an object a call would be far more.
        require(made < 512, "calls made " + made + " bytes of objects");
        System.out.println("RoomTest: " + wrong + " wrong (" + answers + ")");
        if (wrong != 0) {
            System.exit(1);
        }
    }

    private static void require(boolean kept, String what) {
        if (!kept) {
            wrong++;
            System.out.println("too much: " + what);
        }
    }

    private static long allocated() {
        com.sun.management.ThreadMXBean threads =
                (com.sun.management.ThreadMXBean) ManagementFactory.getThreadMXBean();
        return threads.getCurrentThreadAllocatedBytes();
    }

    /** Even a run whose every call makes a new object has to fit. */
    private static void weigh(PasteHouse house, String what) throws Exception {
        Map<Object, Boolean> found = new IdentityHashMap<>();
        long elements = elementsOf(house, found);
        System.out.println("RoomTest: " + what + " has " + found.size() + " objects, " + elements + " elements");
        require(found.size() <= MOST_OBJECTS, what + ": objects " + found.size());
        require(elements <= MOST_ELEMENTS, what + ": elements " + elements);
    }

    private static long elementsOf(Object object, Map<Object, Boolean> found) throws Exception {
        if (object == null || found.put(object, true) != null) {
            return 0;
        }
        if (object.getClass().isArray()) {
            return Array.getLength(object);
        }
        long sum = 0;
        for (Field field : object.getClass().getDeclaredFields()) {
            if (!Modifier.isStatic(field.getModifiers())) {
                sum++;
                if (!field.getType().isPrimitive()) {
                    field.setAccessible(true);
                    sum += elementsOf(field.get(object), found);
                }
            }
        }
        return sum;
    }

    private static void work(PasteHouse house) {
        for (int i = 0; i + 20 <= TEXT.length(); i += 20) {
            answers += house.feed(four(i), four(i + 4), four(i + 8), four(i + 12), four(i + 16));
        }
        answers += house.read();
        answers += house.place();
        for (int board = 0; board < 9; board++) {
            answers += house.board(board / 7, 1 + board, 100, board, board % 2 == 0);
        }
        for (int day = 0; day < 14; day++) {
            answers += house.fact(day % 4, day % 9, 0, day);
        }
        answers += house.give(0, 14);
        answers += house.fact(4, 2, 0, 0);
        answers += house.mend(0, 15);
        answers += house.pace(0, 2) ? 1 : 0;
        for (int board = 0; board < 9; board++) {
            answers += house.given(board, 0, 3) + house.may(board, 0) + house.bar(board, 1);
            answers += house.state(board, 0, 15, 2) + house.ground(board, 0, 15);
        }
        answers += house.lacks(0, 0, 0) + house.refund(0, 0, 15) + house.reach(0, 0, 15) + house.count(4) + house.back(0);
    }

    private static int four(int at) {
        return TEXT.charAt(at) << 24 | TEXT.charAt(at + 1) << 16 | TEXT.charAt(at + 2) << 8 | TEXT.charAt(at + 3);
    }
}
