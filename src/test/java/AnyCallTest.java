import java.lang.reflect.InvocationTargetException;
import java.lang.reflect.Method;
import java.lang.reflect.Modifier;
import java.util.ArrayList;
import java.util.Comparator;
import java.util.List;
import java.util.NoSuchElementException;

/**
 * Any call with any arguments in any state: it throws nothing but what row() may, and answers as the plain
 * one does. Runs are as long as an object may be used: 512 calls.
 */
public final class AnyCallTest {
    private static final int RUNS = Integer.getInteger("runs", 600);
    private static final long SEED = Long.getLong("seed", 1L);
    private static final int MOST_CALLS = 512;
    private static final int[] EDGES = {
        Integer.MIN_VALUE, Integer.MIN_VALUE + 1, -1000, -128, -100, -27, -26, -3, -2, -1, 0, 1, 2, 3, 4, 5, 6, 7, 8, 9, 10, 15, 16, 19, 20, 21, 22, 23, 24,
        25, 26, 27, 28, 100, 124, 125, 126, 127, 255, 256, 398, 399, 400, 401, 799, 800, 801, 1023, 1024, 65536, Integer.MAX_VALUE - 1, Integer.MAX_VALUE};
    private static final List<Method> calls = calls();

    private static int wrong = 0;
    private static int made = 0;

    public static void main(String[] args) throws ReflectiveOperationException {
        for (int k = 0; k < RUNS && wrong == 0; k++) {
            runOne(new TextMaker(SEED * 7_000_000 + k));
        }
        System.out.println(made + " calls, " + wrong + " not as due");
        if (wrong > 0 || made == 0) {
            System.exit(1);
        }
    }

    private static List<Method> calls() {
        List<Method> found = new ArrayList<>();
        for (Method method : WindowHouse.class.getDeclaredMethods()) {
            if (Modifier.isPublic(method.getModifiers())) {
                found.add(method);
            }
        }
        // by name, since their order is free, and a run is to be the same every time
        found.sort(Comparator.comparing(Method::getName));
        return found;
    }

    private static void runOne(TextMaker maker) throws ReflectiveOperationException {
        WindowHouse house = new WindowHouse();
        Oracle oracle = new Oracle();
        List<String> tokens = maker.tokens(maker.once(6));
        int rare = 20 + maker.upTo(100);
        for (int k = 0; k < MOST_CALLS && wrong == 0; k++) {
            if (k % rare == 0 && k < MOST_CALLS - 90) {
                k += tell(maker, house, oracle, k / rare % 2, maker.text(maker.once(3) ? maker.changed(tokens) : tokens));
                tokens = maker.once(4) ? maker.tokens(maker.once(6)) : tokens;
            }
            Method method = calls.get(maker.upTo(calls.size() - 1));
            // seldom, so that there is room left on the tape for texts
            if (!method.getName().equals("feed") || maker.once(4)) {
                callBoth(house, oracle, method, arguments(maker, method.getParameterCount()));
            }
        }
    }

    private static int tell(TextMaker maker, WindowHouse house, Oracle oracle, int a, String text) throws ReflectiveOperationException {
        int fed = 0;
        Method feed = WindowHouse.class.getMethod("feed", int.class, int.class, int.class, int.class, int.class);
        Method app = WindowHouse.class.getMethod("app", int.class, int.class);
        if (oracle.count(3) > 0) {
            // a text without an APP: the tape is empty then
            callBoth(house, oracle, app, new Object[] {a, 0});
            fed++;
        }
        for (int at = 0; at < text.length() && fed < 44; at += 20) {
            Object[] five = new Object[5];
            for (int k = 0; k < 5; k++) {
                int four = 0;
                for (int byteAt = at + 4 * k; byteAt < at + 4 * k + 4; byteAt++) {
                    four = four << 8 | (byteAt < text.length() ? text.charAt(byteAt) : ' ');
                }
                five[k] = four;
            }
            callBoth(house, oracle, feed, five);
            fed++;
        }
        int n = maker.once(9) ? maker.upTo(820) : Math.min(text.length(), oracle.count(3));
        callBoth(house, oracle, app, new Object[] {a, n});
        return fed + 1;
    }

    private static Object[] arguments(TextMaker maker, int many) {
        Object[] some = new Object[many];
        for (int k = 0; k < many; k++) {
            int sort = maker.upTo(9);
            some[k] = sort == 0 ? EDGES[maker.upTo(EDGES.length - 1)] : sort == 1 ? 24 + maker.upTo(2) : sort < 6 ? maker.upTo(1) : maker.upTo(8);
        }
        return some;
    }

    private static void callBoth(WindowHouse house, Oracle oracle, Method method, Object[] arguments) throws ReflectiveOperationException {
        Method plain = Oracle.class.getDeclaredMethod(method.getName(), method.getParameterTypes());
        Object got = called(house, method, arguments);
        Object due = called(oracle, plain, arguments);
        made++;
        if (!got.equals(due)) {
            wrong++;
            System.out.println(method.getName() + List.of(arguments) + " answered " + got + ", the plain one " + due);
        }
    }

    private static Object called(Object on, Method method, Object[] arguments) throws ReflectiveOperationException {
        try {
            return method.invoke(on, arguments);
        } catch (InvocationTargetException thrown) {
            if (thrown.getCause() instanceof NoSuchElementException && method.getName().equals("row")) {
                return "NoSuchElementException";
            }
            thrown.getCause().printStackTrace(System.out);
            return "" + thrown.getCause();
        }
    }
}
