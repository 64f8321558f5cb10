import java.lang.management.ManagementFactory;
import java.lang.reflect.Array;
import java.lang.reflect.Field;
import java.lang.reflect.Modifier;
import java.util.ArrayDeque;
import java.util.IdentityHashMap;
import java.util.Map;

/** The room that a house takes: all calls of a run live in one of 600,000 objects and 7.3 million fields and elements. */
public final class RoomTest {
    private static final int MOST_OBJECTS = 120;
    private static final int MOST_ELEMENTS = 26_000;
    private static final int ROUNDS = 100;
    /** What the machine itself may make in between; the calls make none. */
    private static final long MOST_BYTES = 20_000;
    private static final String CHAIN = "var a 9;var b 9;var c 3;window w{button n if a<9 do add a 1;button m if a=9 and b<9 do add a 1,add b 1;"
            + "button o if a=9 and b=9 and c<3 do add a 1,add b 1,add c 1;}";

    private static final int[] PACKED = packed(CHAIN);

    private static int sum = 0;

    public static void main(String[] args) throws IllegalAccessException {
        Checks checks = new Checks();
        checks.about("the room");
        WindowHouse fresh = new WindowHouse();
        int[] before = sizeOf(fresh);
        checks.due("objects and arrays of a new house: " + before[0], before[0] <= MOST_OBJECTS, true);
        checks.due("fields and elements of a new house: " + before[1], before[1] <= MOST_ELEMENTS, true);
        WindowHouse x = Checks.beside(CHAIN, CHAIN);
        callAll(x);
        int[] after = sizeOf(x);
        checks.due("objects and arrays of a used one: " + after[0], after[0] <= before[0], true);
        checks.due("fields and elements of a used one: " + after[1], after[1] <= before[1], true);
        long made = madeBy(x);
        System.out.println(before[0] + " objects and arrays, " + before[1] + " fields and elements; " + made + " bytes made by " + ROUNDS + " rounds");
        checks.due("bytes made by " + ROUNDS + " rounds of all calls", made < MOST_BYTES, true);
        checks.due("the answers are used", sum != 0, true);
        checks.end();
    }

    private static long madeBy(WindowHouse x) {
        if (!(ManagementFactory.getThreadMXBean() instanceof com.sun.management.ThreadMXBean counter)) {
            return 0;
        }
        for (int k = 0; k < ROUNDS; k++) {
            callAll(x);
        }
        long start = counter.getCurrentThreadAllocatedBytes();
        for (int k = 0; k < ROUNDS; k++) {
            callAll(x);
        }
        return counter.getCurrentThreadAllocatedBytes() - start;
    }

    /** The text as the numbers that feed() takes, five a call. */
    private static int[] packed(String text) {
        int[] numbers = new int[(text.length() + 19) / 20 * 5];
        for (int at = 0; at < 4 * numbers.length; at++) {
            numbers[at / 4] = numbers[at / 4] << 8 | (at < text.length() ? text.charAt(at) : ' ');
        }
        return numbers;
    }

    /** All calls, also those that are refused, but row() where it throws. */
    private static void callAll(WindowHouse x) {
        sum += x.map(0) + x.met(399, 5) + x.leads(3, 26) + x.faultAt(1) + x.pressedAt(2) + x.never() + x.holdsAt(2, 3) + x.stuck(0) + x.least();
        sum += x.views() + x.farthest() + x.ways() + x.rowTo(200) + x.tryRow(1) + x.tried() + x.shorter(0) + x.row(5) + (x.cut(7) ? 1 : 0) + x.push(24);
        sum += x.act(0, 0) + x.state(0, 4) + x.var(0, 0) + x.can(0, 2) + (x.begin(0) ? 1 : 0) + x.about(0, 1) + x.button(1, 2, 1);
        sum += x.feed(1, 2, 3, 4, 5) + x.app(0, 20) + x.fault() + x.where() + x.count(4) + x.trouble();
        for (int k = 0; k < PACKED.length; k += 5) {
            sum += x.feed(PACKED[k], PACKED[k + 1], PACKED[k + 2], PACKED[k + 3], PACKED[k + 4]);
        }
        sum += x.app(1, 4 * PACKED.length) + x.apart();
    }

    /** How many objects and arrays hang on this one, and how many fields and elements they have. */
    private static int[] sizeOf(Object house) throws IllegalAccessException {
        Map<Object, Boolean> known = new IdentityHashMap<>();
        ArrayDeque<Object> open = new ArrayDeque<>();
        known.put(house, true);
        open.add(house);
        int elements = 0;
        while (!open.isEmpty()) {
            Object one = open.poll();
            if (one.getClass().isArray()) {
                elements += Array.getLength(one);
                for (int k = 0; k < Array.getLength(one) && !one.getClass().getComponentType().isPrimitive(); k++) {
                    goOn(Array.get(one, k), known, open);
                }
                continue;
            }
            for (Field field : one.getClass().getDeclaredFields()) {
                if (!Modifier.isStatic(field.getModifiers())) {
                    elements++;
                    field.setAccessible(true);
                    if (!field.getType().isPrimitive()) {
                        goOn(field.get(one), known, open);
                    }
                }
            }
        }
        return new int[] {known.size(), elements};
    }

    private static void goOn(Object next, Map<Object, Boolean> known, ArrayDeque<Object> open) {
        if (next != null && known.put(next, true) == null) {
            open.add(next);
        }
    }
}
