import java.util.ArrayList;
import java.util.List;
import java.util.NoSuchElementException;
import java.util.TreeMap;

/** Holds the class against the plain one, call by call, over many made texts and rows of calls. */
public final class OracleTest {
    private static final int TEXTS = 12000;
    /** With so many runs each sort of answer must have been met; fewer may well miss one. */
    private static final int ENOUGH = 3000;
    private static final int RUNS = Integer.getInteger("runs", ENOUGH);
    /** An object is promised to be used for no more calls than these. */
    private static final int MOST_CALLS = 512;
    /** More than any step of a run makes, the telling of two texts with it. */
    private static final int ONE_STEP = 190;
    /** How long a way to a FAULT may be that is pushed ACT by ACT. */
    private static final int MOST_WAY = 40;
    private static final long SEED = Long.getLong("seed", 1L);

    private static int wrong = 0;
    private static int calls = 0;
    private static final TreeMap<String, Integer> seen = new TreeMap<>();

    public static void main(String[] args) {
        for (int k = 0; k < TEXTS && wrong == 0; k++) {
            readOne(new TextMaker(SEED * 1_000_000 + k));
        }
        for (int k = 0; k < RUNS && wrong == 0; k++) {
            runOne(new TextMaker(SEED * 9_000_000 + k));
        }
        for (int k = 0; k < RUNS && wrong == 0; k++) {
            reorderOne(new TextMaker(SEED * 3_000_000 + k));
        }
        for (int k = 0; k < RUNS && wrong == 0; k++) {
            shortenOne(new TextMaker(SEED * 5_000_000 + k));
        }
        System.out.println("met: " + seen);
        for (String must : List.of("fault 0", "fault 1", "fault 2", "fault 3", "fault 4", "fault 5", "map 0", "map 5",
                "apart -2", "apart row", "apart 100", "apart 5", "reordered -2", "changed -2", "changed row", "stuck -2", "shorter 0", "shorter 4", "kinds fewer")) {
            if (RUNS >= ENOUGH && !seen.containsKey(must)) {
                System.out.println("never met: " + must);
                wrong++;
            }
        }
        if (wrong > 0) {
            System.exit(1);
        }
    }

    private static void note(String what) {
        seen.merge(what, 1, Integer::sum);
    }

    private static void same(String call, int got, int want) {
        calls++;
        if (got != want) {
            wrong++;
            System.out.println(call + " answered " + got + ", the plain one " + want);
        }
    }

    private static void tell(WindowHouse house, Oracle oracle, int a, String text) {
        for (int at = 0; at < text.length(); at += 20) {
            int[] f = new int[5];
            for (int k = 0; k < 20; k++) {
                f[k / 4] |= (at + k < text.length() ? text.charAt(at + k) : ' ') << 24 - 8 * (k % 4);
            }
            same("feed", house.feed(f[0], f[1], f[2], f[3], f[4]), oracle.feed(f[0], f[1], f[2], f[3], f[4]));
        }
        int n = Math.min(text.length(), oracle.count(3));
        same("app(" + a + ", " + text + ")", house.app(a, n), oracle.app(a, n));
        same("trouble", house.trouble(), oracle.trouble());
        same("fault", house.fault(), oracle.fault());
        same("where in " + text, house.where(), oracle.where());
        note("fault " + oracle.fault());
    }

    private static void readOne(TextMaker maker) {
        WindowHouse house = new WindowHouse();
        Oracle oracle = new Oracle();
        List<String> tokens = maker.tokens(maker.once(2));
        if (maker.once(10)) {
            tell(house, oracle, 0, maker.text(tokens));
        } else {
            String text = maker.text(maker.once(4) ? maker.spoilt(maker.spoilt(tokens)) : maker.spoilt(tokens));
            tell(house, oracle, 0, maker.once(5) ? text.substring(0, maker.upTo(text.length())) : text);
        }
        for (int what = -1; what < 7; what++) {
            same("about", house.about(0, what), oracle.about(0, what));
        }
        for (int b = -1; b < 25; b++) {
            for (int what = -1; what < 4; what++) {
                same("button", house.button(0, b, what), oracle.button(0, b, what));
            }
        }
    }

    private static void runOne(TextMaker maker) {
        WindowHouse house = new WindowHouse();
        Oracle oracle = new Oracle();
        List<String> first = maker.tokens(maker.once(12));
        calls = 0;
        int twoAfter = maker.upTo(12);
        for (int step = 0; calls < MOST_CALLS - ONE_STEP && wrong == 0; step++) {
            if (step == 0 || maker.once(50)) {
                first = maker.tokens(maker.once(12));
                tell(house, oracle, 0, maker.text(first));
            }
            if (step == twoAfter || maker.once(40)) {
                List<String> same = maker.once(2) ? maker.reordered() : first;
                List<String> other = maker.once(5) ? same : maker.changed(same);
                tell(house, oracle, maker.once(8) ? 0 : 1, maker.text(maker.once(9) ? maker.spoilt(other) : other));
            }
            int arg = maker.once(20) ? maker.upTo(60) - 30 : maker.upTo(9);
            callOne(maker, house, oracle, arg);
            same("trouble", house.trouble(), oracle.trouble());
            switch (maker.upTo(5)) {
                case 0 -> same("where", house.where(), oracle.where());
                case 1 -> same("fault", house.fault(), oracle.fault());
                case 2 -> same("tried", house.tried(), oracle.tried());
                default -> same("count", house.count(arg % 6), oracle.count(arg % 6));
            }
        }
        if (calls > MOST_CALLS) {
            wrong++;
            System.out.println("the run made " + calls + " calls");
        }
    }

    /** An APP beside itself told in another order, and beside one that is changed as well: told by names, not by numbers. */
    private static void reorderOne(TextMaker maker) {
        WindowHouse house = new WindowHouse();
        Oracle oracle = new Oracle();
        tell(house, oracle, 0, maker.text(maker.tokens(false)));
        tell(house, oracle, 1, maker.text(maker.reordered()));
        int apart = oracle.apart();
        same("apart of an APP told in another order", house.apart(), apart);
        if (apart >= 0) {
            same("they show alike", apart, -2);
        }
        note("reordered " + (apart == -2 ? "-2" : oracle.trouble()));
        tell(house, oracle, 1, maker.text(maker.changed(maker.reordered())));
        apart = oracle.apart();
        same("apart of one that is changed, too", house.apart(), apart);
        same("count(4)", house.count(4), oracle.count(4));
        note("changed " + (apart == -2 ? "-2" : apart >= 0 ? "row" : oracle.trouble()));
        rows(house, oracle);
    }

    /** A run that does nothing but make rows shorter that come to a fault: such are rare among the others. */
    private static void shortenOne(TextMaker maker) {
        WindowHouse house = new WindowHouse();
        Oracle oracle = new Oracle();
        calls = 0;
        tell(house, oracle, 0, maker.text(maker.tokens(false)));
        same("map", house.map(0), oracle.map(0));
        boolean some = oracle.faultAt(1) >= 0 || oracle.faultAt(2) >= 0;
        while (some && calls < MOST_CALLS - ONE_STEP && wrong == 0) {
            pushWayToFault(maker, house, oracle);
            same("shorter", house.shorter(0), oracle.shorter(0));
            note("shorter " + oracle.trouble());
            rows(house, oracle);
        }
    }

    private static int app(TextMaker maker) {
        return maker.once(20) ? maker.upTo(4) - 1 : maker.once(4) ? 1 : 0;
    }

    private static int act(TextMaker maker) {
        return maker.once(30) ? maker.upTo(200) - 50 : maker.once(3) ? 23 + maker.upTo(4) : maker.upTo(8);
    }

    private static void callOne(TextMaker maker, WindowHouse house, Oracle oracle, int arg) {
        int a = app(maker);
        int act = act(maker);
        int s = maker.once(4) ? arg : maker.upTo(Math.max(1, oracle.count(0)));
        switch (maker.upTo(23)) {
            case 0, 1, 2 -> {
                same("act", house.act(a, act), oracle.act(a, act));
                int other = act(maker);
                same("state", house.state(a, arg % 6), oracle.state(a, arg % 6));
                same("var", house.var(a, arg % 4), oracle.var(a, arg % 4));
                same("can", house.can(a, other), oracle.can(a, other));
            }
            case 3 -> same("begin", house.begin(a) ? 1 : 0, oracle.begin(a) ? 1 : 0);
            case 4, 5 -> {
                same("map", house.map(a), oracle.map(a));
                note("map " + oracle.trouble());
            }
            case 6 -> {
                same("met", house.met(s, arg % 7), oracle.met(s, arg % 7));
                same("leads", house.leads(s, act), oracle.leads(s, act));
            }
            case 7 -> same("met 5", house.met(s, 5), oracle.met(s, 5));
            case 8 -> same("rowTo", house.rowTo(s), oracle.rowTo(s));
            case 9 -> same("faultAt", house.faultAt(arg), oracle.faultAt(arg));
            case 10 -> same("pressedAt", house.pressedAt(arg), oracle.pressedAt(arg));
            case 11 -> same("never", house.never(), oracle.never());
            case 12 -> same("holdsAt", house.holdsAt(arg % 4, act), oracle.holdsAt(arg % 4, act));
            case 13 -> {
                int stuck = oracle.stuck(arg % 4);
                same("stuck", house.stuck(arg % 4), stuck);
                note("stuck " + (stuck > 0 ? "some" : stuck));
            }
            case 14 -> {
                int least = oracle.least();
                same("least", house.least(), least);
                note("kinds " + (least < 0 ? "none" : least < oracle.count(0) ? "fewer" : "all"));
            }
            case 15 -> same("views", house.views(), oracle.views());
            case 16 -> same("farthest", house.farthest(), oracle.farthest());
            case 17 -> same("ways", house.ways(), oracle.ways());
            case 18, 19 -> {
                int many = maker.once(10) ? 40 : 5;
                for (int k = 0; k < many; k++) {
                    int next = act(maker);
                    same("push", house.push(next), oracle.push(next));
                }
            }
            case 20 -> same("cut", house.cut(arg * 3) ? 1 : 0, oracle.cut(arg * 3) ? 1 : 0);
            case 21 -> same("tryRow", house.tryRow(a), oracle.tryRow(a));
            case 22 -> {
                if (maker.once(2)) {
                    pushWayToFault(maker, house, oracle);
                }
                same("shorter", house.shorter(a), oracle.shorter(a));
                note("shorter " + oracle.trouble());
                rows(house, oracle);
            }
            default -> {
                int apart = oracle.apart();
                same("apart", house.apart(), apart);
                note("apart " + (apart == -2 ? "-2" : apart >= 0 ? "row" : oracle.trouble()));
                if (apart > 0 && oracle.row(apart - 1) >= 100) {
                    note("apart 100");
                }
                rows(house, oracle);
            }
        }
    }

    /** Makes THE ROW one to a FAULT, if the map has it, with other ACTS in between. */
    private static void pushWayToFault(TextMaker maker, WindowHouse house, Oracle oracle) {
        int number = 1 + (maker.once(3) ? maker.upTo(19) : maker.upTo(1));
        int s = oracle.faultAt(number);
        same("faultAt", house.faultAt(number), s);
        if (s < 0) {
            return;
        }
        same("rowTo", house.rowTo(s), oracle.rowTo(s));
        List<Integer> way = new ArrayList<>();
        for (int k = 0; k < oracle.count(2); k++) {
            way.add(oracle.row(k));
        }
        for (int extra = maker.upTo(12); extra > 0 && way.size() < MOST_WAY; extra--) {
            way.add(maker.upTo(way.size()), maker.once(3) ? 26 : act(maker));
        }
        same("cut", house.cut(0) ? 1 : 0, oracle.cut(0) ? 1 : 0);
        for (int act : way.subList(0, Math.min(MOST_WAY, way.size()))) {
            same("push", house.push(act), oracle.push(act));
        }
    }

    private static void rows(WindowHouse house, Oracle oracle) {
        int most = Math.min(30, oracle.count(2));
        for (int k = -1; k <= most; k++) {
            int want = Integer.MIN_VALUE;
            try {
                want = oracle.row(k);
            } catch (NoSuchElementException none) {
                want = Integer.MIN_VALUE;
            }
            same("row(" + k + ")", Checks.rowAt(house, k), want);
        }
    }
}
