/** Promises 13 to 25: the map and what is asked of it. */
public final class MapTest {
    private static final Checks checks = new Checks();
    /** 0: a; 1: x is 1; 2: b on a, x 0 (by o); 3: b on a, x 1; 4: the fault 4 with k 1; 5: a with k 1; .. */
    private static final String SMALL = "var x 1;kept k 1;window a{show x;button u do add x 1;button o do open b;}"
            + "window b{button f if x=1 do set k 1,fault 4;button n if x>1 do fault 5;}";
    /** STATES of it: 400 with c up to 3; 500 with c up to 4. */
    private static final String COUNTERS = "var a 9;var b 9;var c ?;window w{button a do add a 1;button b do add b 1;button c do add c 1;}";

    public static void main(String[] args) {
        making();
        most();
        metStates();
        leading();
        rows();
        faults();
        pressed();
        values();
        stuckStates();
        kinds();
        views();
        sums();
        withoutMap();
        checks.end();
    }

    private static void making() {
        checks.about("13 map");
        WindowHouse x = Checks.with(SMALL);
        for (int a : new int[] {-1, 1, 2, Integer.MIN_VALUE, Integer.MAX_VALUE}) {
            checks.due("map(" + a + ")", x.map(a), -1);
            checks.troubleIs(x, 1);
        }
        checks.due("map(0)", x.map(0), 9);
        checks.troubleIs(x, 0);
        checks.due("count(0)", x.count(0), 9);
        checks.due("count(1)", x.count(1), 0);
        checks.due("map(1)", x.map(1), -1);
        checks.due("the former stays", x.count(0), 9);
        Checks.tell(x, 1, "window a{}");
        checks.due("map(1)", x.map(1), 1);
        checks.due("count(1)", x.count(1), 1);
        checks.due("leads(0, 0)", x.leads(0, 0), -2);
        // the state by hand is not where the map begins
        x.act(0, 0);
        checks.due("map(0)", x.map(0), 9);
        checks.due("holdsAt(0, 1)", x.holdsAt(0, 1), 1);
        // the ticks of windows below part states
        x = Checks.with("window a{button o do open b;after 3 do close;}window b{}");
        checks.due("map(0)", x.map(0), 6);
        // and the same windows in another order
        x = Checks.with("window a{button b do open b;button c do open c;}window b{button c do open c;}window c{button b do open b;}");
        checks.due("map(0)", x.map(0), 1 + 2 + 2 + 2 + 2);
    }

    private static void most() {
        checks.about("13 map: 400 states");
        WindowHouse x = Checks.with(COUNTERS.replace('?', '3'));
        checks.due("map(0)", x.map(0), 400);
        checks.due("farthest()", x.farthest(), 9 + 9 + 3);
        checks.due("rowTo(399)", x.rowTo(399), 21);
        checks.due("leads(399, 0)", x.met(x.leads(399, 0), 3), 12);
        checks.due("met(400, 0)", x.met(400, 0), -1);
        Checks.tell(x, 1, COUNTERS.replace('?', '4'));
        checks.due("map(1)", x.map(1), -1);
        checks.troubleIs(x, 5);
        checks.due("no map then", x.count(0), 0);
        checks.due("no map then", x.count(1), -1);
        checks.due("met(0, 0)", x.met(0, 0), -1);
        checks.due("least()", x.least(), -1);
        checks.troubleIs(x, 6);
        checks.due("map(0)", x.map(0), 400);
        // one state more than 400, met last
        x = Checks.with("var a 9;var b 9;var c 3;window w{button a do add a 1;button b do add b 1;button c do add c 1;"
                + "button f if a=9 and b=9 and c=3 do fault 1;}");
        checks.due("map(0)", x.map(0), -1);
        checks.troubleIs(x, 5);
    }

    private static void metStates() {
        checks.about("14 met");
        WindowHouse x = Checks.mapped(SMALL);
        // FAULT, WINDOWS, topmost, ROW, ACTS
        int[][] due = {{0, 1, 0, 0, 4}, {0, 1, 0, 1, 4}, {0, 2, 1, 1, 3}, {0, 2, 1, 2, 4}, {4, 0, -1, 3, 1}, {0, 1, 0, 4, 4},
            {0, 1, 0, 5, 4}, {0, 2, 1, 5, 3}, {0, 2, 1, 6, 4}};
        for (int s = 0; s < due.length; s++) {
            for (int what = 0; what < 5; what++) {
                checks.due("met(" + s + ", " + what + ")", x.met(s, what), due[s][what]);
            }
            checks.due("met(" + s + ", 6)", x.met(s, 6), -1);
            checks.due("met(" + s + ", -1)", x.met(s, -1), -1);
        }
        for (int s : new int[] {-1, 9, 400, Integer.MIN_VALUE, Integer.MAX_VALUE}) {
            checks.due("met(" + s + ", 0)", x.met(s, 0), -1);
            checks.due("met(" + s + ", 5)", x.met(s, 5), -1);
        }
        checks.troubleIs(x, 0);
    }

    private static void leading() {
        checks.about("15 leads");
        WindowHouse x = Checks.mapped(SMALL);
        int[][] due = {{0, 0, 1}, {0, 1, 2}, {0, 2, -2}, {0, 24, 0}, {0, 25, -2}, {0, 26, 0}, {1, 0, 0}, {1, 1, 3}, {1, 26, 0},
            {2, 0, -2}, {2, 2, -2}, {2, 25, 0}, {3, 2, 4}, {3, 3, -2}, {3, 25, 1}, {4, 24, -2}, {4, 25, -2}, {4, 26, 5}, {5, 0, 6},
            {8, 2, 4}, {8, 26, 5}, {0, 23, -2}};
        for (int[] row : due) {
            checks.due("leads(" + row[0] + ", " + row[1] + ")", x.leads(row[0], row[1]), row[2]);
        }
        for (int wrong : new int[] {-1, 27, 100, Integer.MIN_VALUE, Integer.MAX_VALUE}) {
            checks.due("leads(0, " + wrong + ")", x.leads(0, wrong), -1);
            checks.due("leads(" + wrong + ", 26)", x.leads(wrong, 26), -1);
        }
        checks.due("leads(9, 26)", x.leads(9, 26), -1);
        checks.troubleIs(x, 0);
    }

    private static void rows() {
        checks.about("16 rowTo");
        WindowHouse x = Checks.mapped(SMALL);
        checks.due("rowTo(4)", x.rowTo(4), 3);
        checks.rowIs(x, 0, 1, 2);
        checks.due("rowTo(8)", x.rowTo(8), 6);
        checks.rowIs(x, 0, 1, 2, 26, 0, 1);
        checks.due("tryRow(0)", x.tryRow(0), 4);
        checks.due("rowTo(0)", x.rowTo(0), 0);
        checks.rowIs(x);
        x.push(7);
        for (int s : new int[] {-1, 9, Integer.MIN_VALUE, Integer.MAX_VALUE}) {
            checks.due("rowTo(" + s + ")", x.rowTo(s), -1);
            checks.troubleIs(x, 1);
        }
        checks.rowIs(x, 7);
    }

    private static void faults() {
        checks.about("17 faultAt");
        WindowHouse x = Checks.mapped(SMALL);
        for (int number = 1; number <= 20; number++) {
            checks.due("faultAt(" + number + ")", x.faultAt(number), number == 4 ? 4 : -2);
            checks.troubleIs(x, 0);
        }
        for (int number : new int[] {0, -1, 21, Integer.MIN_VALUE, Integer.MAX_VALUE}) {
            checks.due("faultAt(" + number + ")", x.faultAt(number), -1);
            checks.troubleIs(x, 2);
        }
        // what a larger map had behind the states of this one is no matter
        x = Checks.mapped("var x 2;window a{button b do set x 2,open c;}window c{button f do fault 5;}");
        checks.due("faultAt(5)", x.faultAt(5), 2);
        Checks.tell(x, 0, "var x 2;window a{button b do open c;}window c{}");
        checks.due("map(0)", x.map(0), 2);
        checks.due("faultAt(5)", x.faultAt(5), -2);
        checks.due("holdsAt(0, 2)", x.holdsAt(0, 2), -2);
        // the first of two
        x = Checks.mapped("kept k 1;window a{button s do set k 1;button f do fault 20;}");
        checks.due("map", x.count(0), 4);
        checks.due("faultAt(20)", x.faultAt(20), 2);
    }

    private static void pressed() {
        checks.about("18 pressedAt, 19 never");
        WindowHouse x = Checks.mapped(SMALL);
        int[] due = {0, 0, 3, -2};
        for (int b = 0; b < 4; b++) {
            checks.due("pressedAt(" + b + ")", x.pressedAt(b), due[b]);
            checks.troubleIs(x, 0);
        }
        for (int b : new int[] {-1, 4, 24, 26, Integer.MIN_VALUE, Integer.MAX_VALUE}) {
            checks.due("pressedAt(" + b + ")", x.pressedAt(b), -1);
            checks.troubleIs(x, 1);
        }
        checks.due("never()", x.never(), 1);
        checks.troubleIs(x, 0);
        x = Checks.mapped("window a{}window b{button c do close;button d do close;}");
        checks.due("never()", x.never(), 2);
        x = Checks.mapped("window a{}");
        checks.due("never()", x.never(), 0);
        x = Checks.mapped("window a{button b do close;}");
        checks.due("pressedAt(0), which leads to 0", x.pressedAt(0), 0);
        checks.due("never()", x.never(), 0);
    }

    private static void values() {
        checks.about("20 holdsAt");
        WindowHouse x = Checks.mapped(SMALL);
        checks.due("holdsAt(0, 0)", x.holdsAt(0, 0), 0);
        checks.due("holdsAt(0, 1)", x.holdsAt(0, 1), 1);
        checks.due("holdsAt(1, 1): what is kept in a fault", x.holdsAt(1, 1), 4);
        for (int value : new int[] {-1, 2, 15, 16, Integer.MIN_VALUE, Integer.MAX_VALUE}) {
            checks.due("holdsAt(0, " + value + ")", x.holdsAt(0, value), -2);
            checks.troubleIs(x, 0);
        }
        for (int v : new int[] {-1, 2, 6, Integer.MIN_VALUE, Integer.MAX_VALUE}) {
            checks.due("holdsAt(" + v + ", 0)", x.holdsAt(v, 0), -1);
            checks.troubleIs(x, 1);
        }
    }

    private static void stuckStates() {
        checks.about("21 stuck");
        WindowHouse x = Checks.mapped(SMALL);
        checks.due("stuck(0): the fault", x.stuck(0), 4);
        checks.due("stuck(1)", x.stuck(1), 4);
        for (int w : new int[] {-1, 2, 8, Integer.MIN_VALUE, Integer.MAX_VALUE}) {
            checks.due("stuck(" + w + ")", x.stuck(w), -1);
            checks.troubleIs(x, 1);
        }
        // 0: a; 1: x is 1, from where b can't be opened any more, but by TORN
        x = Checks.mapped("var x 1;window a{button s do set x 1;button o if x=0 do open b;}window b{}window c{}");
        checks.due("stuck(0)", x.stuck(0), -2);
        checks.troubleIs(x, 0);
        checks.due("stuck(1)", x.stuck(1), 1);
        checks.due("stuck(2)", x.stuck(2), 0);
        // the only way is by the first button
        x = Checks.mapped("window a{button o do open b;}window b{button o do open c;}window c{}");
        checks.due("stuck(2)", x.stuck(2), -2);
        checks.due("stuck(1)", x.stuck(1), -2);
        // a way of many waits, and one that leads back to states of lower numbers
        x = Checks.mapped("var x 1;window a{button o do open b;after 9 do open b;}window b{after 9 do open c;}window c{}");
        checks.due("stuck(0)", x.stuck(0), -2);
        checks.due("stuck(2)", x.stuck(2), -2);
    }

    private static void kinds() {
        checks.about("22 least, 14 kinds");
        // h is never shown and asked by no cond: it parts no kinds
        WindowHouse x = Checks.mapped("var x 2;var h 3;window a{show x;button u do add x 1;button h do add h 1;}");
        checks.due("map", x.count(0), 12);
        checks.due("least()", x.least(), 3);
        checks.troubleIs(x, 0);
        for (int s = 0; s < 12; s++) {
            checks.due("a kind has one value: " + s, x.met(s, 5), x.met(x.leads(s, 1), 5));
        }
        checks.due("kind of 0", x.met(0, 5), 0);
        checks.due("kind of 1", x.met(1, 5), 1);
        checks.due("kind of 2: by h, as 0", x.met(2, 5), 0);
        checks.due("kind of 3: x is 2", x.met(3, 5), 2);
        // h is shown in another window: states that look alike lead to unlike ones
        x = Checks.mapped("var h 3;window a{button h do add h 1;button o do open b;}window b{show h;}");
        checks.due("map", x.count(0), 8);
        checks.due("views()", x.views(), 5);
        checks.due("least()", x.least(), 8);
        checks.due("views() again", x.views(), 5);
        checks.due("least() again", x.least(), 8);
        x.map(0);
        checks.due("least() of the same made again", x.least(), 8);
        // BACK is possible or not, though the view is one
        x = Checks.mapped("window a{button o do open a;}");
        checks.due("map", x.count(0), 5);
        checks.due("views()", x.views(), 1);
        checks.due("least()", x.least(), 5);
        // faults of one number are of one kind, unless TORN leads to unlike ones
        x = Checks.mapped("kept k 1;window a{button s do set k 1;button f do fault 20;}");
        checks.due("least()", x.least(), 2);
        x = Checks.mapped("kept k 1;window a{show k;button s do set k 1;button f do fault 20;}");
        checks.due("least()", x.least(), 4);
        // ticks that are not shown part kinds by what comes of them
        x = Checks.mapped("window a{after 9 do fault 1;}");
        checks.due("least()", x.least(), 10);
        checks.due("kind of 7", x.met(7, 5), 7);
        // kinds go by the map that stands
        x.map(0);
        Checks.tell(x, 0, "window a{after 9 do close;}");
        checks.due("map(0)", x.map(0), 9);
        checks.due("least()", x.least(), 1);
        checks.due("kind of 8", x.met(8, 5), 0);
    }

    private static void views() {
        checks.about("23 views");
        WindowHouse x = Checks.mapped(SMALL);
        // a with x 0, with x 1; b with no button, with f; the fault
        checks.due("views()", x.views(), 5);
        checks.troubleIs(x, 0);
        // what can be pressed in another window is not seen
        x = Checks.mapped("var x 1;window a{button b do add x 1;}window c{button d if x=1 do close;}");
        checks.due("views()", x.views(), 1);
        // the order in which values are shown
        x = Checks.mapped("var x 1;var y 1;window a{show x;show y;button b do add x 1;button c do add y 1;}");
        checks.due("views()", x.views(), 4);
        // two windows that show the same are unlike, and two faults are
        x = Checks.mapped("window a{button b do open c;button f do fault 1;button g do fault 2;}window c{}");
        checks.due("views()", x.views(), 4);
    }

    private static void sums() {
        checks.about("24 farthest, 25 ways");
        WindowHouse x = Checks.mapped(SMALL);
        checks.due("farthest()", x.farthest(), 6);
        checks.troubleIs(x, 0);
        checks.due("ways()", x.ways(), 4 + 4 + 3 + 4 + 1 + 4 + 4 + 3 + 4);
        checks.troubleIs(x, 0);
        x = Checks.mapped("window a{}");
        checks.due("farthest()", x.farthest(), 0);
        checks.due("ways()", x.ways(), 2);
    }

    private static void withoutMap() {
        checks.about("16 to 25 without a map");
        WindowHouse x = Checks.with(SMALL);
        for (int number : new int[] {0, 1, -1, 99}) {
            int[] got = {x.rowTo(number), x.faultAt(number), x.pressedAt(number), x.holdsAt(number, 0), x.stuck(number),
                x.met(number, 0), x.met(number, 5), x.leads(number, 26)};
            for (int answer : got) {
                checks.due("without a map", answer, -1);
            }
        }
        String[] names = {"rowTo", "faultAt", "pressedAt", "never", "holdsAt", "stuck", "least", "views", "farthest", "ways"};
        for (int k = 0; k < names.length; k++) {
            x.push(0);
            checks.troubleIs(x, 0);
            int got = switch (k) {
                case 0 -> x.rowTo(-5);
                case 1 -> x.faultAt(99);
                case 2 -> x.pressedAt(99);
                case 3 -> x.never();
                case 4 -> x.holdsAt(99, 0);
                case 5 -> x.stuck(99);
                case 6 -> x.least();
                case 7 -> x.views();
                case 8 -> x.farthest();
                default -> x.ways();
            };
            checks.due(names[k], got, -1);
            checks.troubleIs(x, 6);
        }
        checks.rowIs(x, new int[10]);
    }
}
