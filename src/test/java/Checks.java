import java.nio.charset.StandardCharsets;
import java.util.NoSuchElementException;

/** What the tests share: counting of wrong answers, and texts fed to a house. */
final class Checks {
    private int made = 0;
    private int wrong = 0;
    private String about = "";

    /** What the checks that follow are about. */
    void about(String what) {
        about = what;
    }

    void due(String call, long got, long want) {
        made++;
        if (got != want) {
            wrong++;
            System.out.println(about + ": " + call + " answered " + got + ", due is " + want);
        }
    }

    void due(String call, boolean got, boolean want) {
        due(call, got ? 1 : 0, want ? 1 : 0);
    }

    void troubleIs(WindowHouse house, int want) {
        due("trouble()", house.trouble(), want);
    }

    /** Does the ACTS by hand in APP 0, each of which must be possible. */
    void acts(WindowHouse house, int... acts) {
        for (int act : acts) {
            due("can(0, " + act + ")", house.can(0, act), 1);
            due("act(0, " + act + ")", house.act(0, act), 1);
            troubleIs(house, 0);
        }
    }

    /** Of the STATE of APP 0: the FAULT, how many WINDOWS, the topmost, its TICKS, how many ACTS are possible. */
    void stateIs(WindowHouse house, int... want) {
        for (int what = 0; what < want.length; what++) {
            due("state(0, " + what + ")", house.state(0, what), want[what]);
        }
    }

    /** That two texts are apart by this row, after so many pairs. */
    void apartIs(String first, String second, int pairs, int... row) {
        WindowHouse x = beside(first, second);
        x.push(26);
        x.push(25);
        due("apart() " + first + " / " + second, x.apart(), row.length);
        troubleIs(x, 0);
        due("count(4) " + first + " / " + second, x.count(4), pairs);
        rowIs(x, row);
    }

    /** That two texts never show unlike, over so many pairs, and the row stays. */
    void alikeAre(String first, String second, int pairs) {
        WindowHouse x = beside(first, second);
        x.push(26);
        x.push(25);
        due("apart() " + first + " / " + second, x.apart(), -2);
        troubleIs(x, 0);
        due("count(4) " + first + " / " + second, x.count(4), pairs);
        rowIs(x, 26, 25);
    }

    /** That the ROW of the house is this one, and no longer. */
    void rowIs(WindowHouse house, int... want) {
        due("count(2)", house.count(2), want.length);
        for (int k = 0; k < want.length; k++) {
            due("row(" + k + ")", rowAt(house, k), want[k]);
        }
        due("row(" + want.length + ") throws", rowAt(house, want.length), Integer.MIN_VALUE);
    }

    /** ACT k of the ROW; the least int if NoSuchElementException was thrown. */
    static int rowAt(WindowHouse house, int k) {
        try {
            return house.row(k);
        } catch (NoSuchElementException none) {
            return Integer.MIN_VALUE;
        }
    }

    /** The text has a fault where @ stands; without @ it has none. */
    void faultIs(int number, String marked) {
        int place = marked.indexOf('@');
        String text = marked.replace("@", "");
        WindowHouse x = new WindowHouse();
        int windows = tell(x, 0, text);
        due("whether refused: " + marked, windows < 0, number > 0);
        due("fault(): " + marked, x.fault(), number);
        due("where(): " + marked, x.where(), place);
        due("trouble(): " + marked, x.trouble(), number > 0 ? 3 : 0);
    }

    /** The part again and again, with a, b, c .. for its question marks. */
    static String repeated(String part, int times) {
        StringBuilder text = new StringBuilder();
        for (int k = 0; k < times; k++) {
            text.append(part.replace('?', (char) ('a' + k)));
        }
        return text.toString();
    }

    void end() {
        System.out.println(made + " answers, " + wrong + " not as due");
        if (wrong > 0 || made == 0) {
            System.exit(1);
        }
    }

    /** Feeds the text, filled up with blanks. */
    static void feed(WindowHouse house, String text) {
        feed(house, text.getBytes(StandardCharsets.ISO_8859_1));
    }

    static void feed(WindowHouse house, byte[] bytes) {
        for (int at = 0; at < bytes.length; at += 20) {
            int[] five = new int[5];
            for (int k = 0; k < 20; k++) {
                int sign = at + k < bytes.length ? bytes[at + k] & 255 : ' ';
                five[k / 4] |= sign << 24 - 8 * (k % 4);
            }
            house.feed(five[0], five[1], five[2], five[3], five[4]);
        }
    }

    static int tell(WindowHouse house, int a, String text) {
        feed(house, text);
        return house.app(a, text.length());
    }

    static WindowHouse with(String text) {
        WindowHouse house = new WindowHouse();
        if (tell(house, 0, text) < 0) {
            System.out.println("the test's own text has a fault: " + house.fault() + " at " + house.where() + ": " + text);
            System.exit(1);
        }
        return house;
    }

    static WindowHouse mapped(String text) {
        WindowHouse house = with(text);
        house.map(0);
        return house;
    }

    static WindowHouse beside(String first, String second) {
        WindowHouse house = with(first);
        if (tell(house, 1, second) < 0) {
            System.out.println("the test's own text has a fault: " + house.fault() + " at " + house.where() + ": " + second);
            System.exit(1);
        }
        return house;
    }
}
