/** Promises 26 to 31: the row, tried and made shorter. */
public final class RowTest {
    private static final Checks checks = new Checks();
    private static final String STEPS = "var x 3;window a{button u do add x 1;button f if x=2 do fault 9;button g if x=3 do fault 8;button o do open b;}"
            + "window b{button h do fault 7;after 2 do close;}";

    public static void main(String[] args) {
        pushing();
        cutting();
        trying();
        shortening();
        shorteningAgain();
        reading();
        checks.end();
    }

    private static WindowHouse with(int... acts) {
        WindowHouse x = Checks.with(STEPS);
        for (int act : acts) {
            x.push(act);
        }
        return x;
    }

    private static void pushing() {
        checks.about("26 push");
        WindowHouse x = new WindowHouse();
        for (int k = 0; k < 400; k++) {
            checks.due("push", x.push(k % 27), k + 1);
        }
        checks.troubleIs(x, 0);
        checks.due("push beyond 400", x.push(0), -1);
        checks.troubleIs(x, 4);
        for (int act : new int[] {-1, 27, 100, Integer.MIN_VALUE, Integer.MAX_VALUE}) {
            checks.due("push(" + act + ")", x.push(act), -1);
            checks.troubleIs(x, 2);
        }
        checks.due("count(2)", x.count(2), 400);
        checks.due("row(0)", Checks.rowAt(x, 0), 0);
        checks.due("row(399)", Checks.rowAt(x, 399), 399 % 27);
        checks.due("row(400)", Checks.rowAt(x, 400), Integer.MIN_VALUE);
    }

    private static void cutting() {
        checks.about("27 cut");
        WindowHouse x = with(1, 2, 3);
        for (int n : new int[] {-1, 4, Integer.MIN_VALUE, Integer.MAX_VALUE}) {
            checks.due("cut(" + n + ")", x.cut(n), false);
            checks.troubleIs(x, 2);
        }
        checks.rowIs(x, 1, 2, 3);
        checks.due("cut(3)", x.cut(3), true);
        checks.troubleIs(x, 0);
        checks.rowIs(x, 1, 2, 3);
        checks.due("cut(1)", x.cut(1), true);
        checks.rowIs(x, 1);
        checks.due("cut(2)", x.cut(2), false);
        checks.due("cut(0)", x.cut(0), true);
        checks.rowIs(x);
        checks.due("cut(0)", x.cut(0), true);
    }

    private static void trying() {
        checks.about("28 tryRow, 29 tried");
        WindowHouse x = with();
        for (int a : new int[] {-1, 1, 2, Integer.MIN_VALUE, Integer.MAX_VALUE}) {
            checks.due("tryRow(" + a + ")", x.tryRow(a), -1);
            checks.troubleIs(x, 1);
            checks.due("tried()", x.tried(), -1);
        }
        checks.due("tryRow(0) of none", x.tryRow(0), 0);
        checks.troubleIs(x, 0);
        checks.due("tried()", x.tried(), 0);
        // 1 and 23 aren't possible: left out
        x = with(0, 1, 23, 0, 1, 0, 2);
        checks.due("tryRow(0)", x.tryRow(0), 9);
        checks.due("tried()", x.tried(), 5);
        x.cut(4);
        checks.due("tried() stays", x.tried(), 5);
        checks.due("tryRow(0)", x.tryRow(0), 0);
        checks.due("tried()", x.tried(), 4);
        checks.due("tryRow(1)", x.tryRow(1), -1);
        checks.due("tried() stays", x.tried(), 4);
        // from the beginning, wherever the state by hand is
        x.act(0, 0);
        x.act(0, 0);
        x.cut(0);
        x.push(1);
        checks.due("tryRow(0)", x.tryRow(0), 0);
        checks.due("var(0, 0)", x.var(0, 0), 2);
        // it ends at the fault to which it comes first: what is behind isn't done
        x = with(3, 4, 26, 0, 0, 1);
        checks.due("tryRow(0)", x.tryRow(0), 7);
        checks.due("tried()", x.tried(), 2);
        checks.rowIs(x, 3, 4, 26, 0, 0, 1);
        x = Checks.with("window a{button f do fault 1;}");
        for (int act : new int[] {24, 0, 26, 24}) {
            x.push(act);
        }
        checks.due("tryRow(0)", x.tryRow(0), 1);
        checks.due("tried()", x.tried(), 2);
        // waits, backs and torns count too
        x = with(3, 24, 25, 25, 0, 26, 0, 0, 1);
        checks.due("tryRow(0)", x.tryRow(0), 9);
        checks.due("tried()", x.tried(), 9);
    }

    private static void shortening() {
        checks.about("30 shorter");
        WindowHouse x = with(0, 0, 24, 3, 25, 23, 1, 0, 0);
        for (int a : new int[] {-1, 1, 2, Integer.MIN_VALUE, Integer.MAX_VALUE}) {
            checks.due("shorter(" + a + ")", x.shorter(a), -1);
            checks.troubleIs(x, 1);
        }
        checks.due("shorter(0)", x.shorter(0), 3);
        checks.troubleIs(x, 0);
        checks.rowIs(x, 0, 0, 1);
        checks.due("shorter(0) again", x.shorter(0), 3);
        checks.due("tried() is no matter of shorter()", x.tried(), -1);
        // only to the same fault: not the nearer one of another number
        x = with(0, 0, 0, 3, 24, 24, 2);
        checks.due("shorter(0)", x.shorter(0), 4);
        checks.rowIs(x, 0, 0, 0, 2);
        // cut behind the act that comes to the fault, even if a shorter row is behind it
        x = with(0, 0, 1, 26, 3, 4);
        checks.due("shorter(0)", x.shorter(0), 3);
        checks.rowIs(x, 0, 0, 1);
        // none is come to: refused, and the row stays
        x = with(0, 24, 3);
        checks.due("shorter(0)", x.shorter(0), -1);
        checks.troubleIs(x, 4);
        checks.rowIs(x, 0, 24, 3);
        checks.due("cut(0)", x.cut(0), true);
        checks.due("shorter(0) of none", x.shorter(0), -1);
        checks.troubleIs(x, 4);
    }

    private static void shorteningAgain() {
        checks.about("30 shorter: from the last to the first, again and again");
        // x goes 1, 2, 3, 0, 1, 2: four of the six could go together, but no single one can
        WindowHouse x = with(24, 0, 0, 0, 0, 0, 0, 24, 1);
        checks.due("shorter(0)", x.shorter(0), 6 + 1);
        checks.rowIs(x, 0, 0, 0, 0, 0, 0, 1);
        // what undoes an act can go only when that act has gone, which stands ahead of it: a second round
        x = Checks.with("var q 1;window a{button s do set q 1;button u do set q 0;button f if q=0 do fault 1;}");
        for (int act : new int[] {0, 1, 2}) {
            x.push(act);
        }
        checks.due("shorter(0)", x.shorter(0), 1);
        checks.rowIs(x, 2);
        // of two ways to the same end the later act goes
        x = Checks.with("var p 1;window a{button p do set p 1;button f if p=1 do fault 1;}");
        for (int act : new int[] {24, 0, 24, 0, 1}) {
            x.push(act);
        }
        checks.due("shorter(0)", x.shorter(0), 2);
        checks.rowIs(x, 0, 1);
        // a long row: 399 acts that go and those that stay
        x = Checks.with(STEPS);
        for (int k = 0; k < 399; k++) {
            x.push(k % 4 == 0 || k > 390 ? 24 : k % 2 == 0 ? 3 : 25);
        }
        x.push(3);
        checks.due("count(2)", x.count(2), 400);
        checks.due("shorter(0)", x.shorter(0), -1);
        x.cut(399);
        x.cut(397);
        x.push(3);
        x.push(4);
        checks.due("shorter(0)", x.shorter(0), 2);
        checks.rowIs(x, 3, 4);
    }

    private static void reading() {
        checks.about("31 row");
        WindowHouse x = with(5, 26, 0);
        checks.rowIs(x, 5, 26, 0);
        for (int k : new int[] {-1, 3, 400, Integer.MIN_VALUE, Integer.MAX_VALUE}) {
            checks.due("row(" + k + ")", Checks.rowAt(x, k), Integer.MIN_VALUE);
        }
        x.push(27);
        Checks.rowAt(x, 0);
        Checks.rowAt(x, 9);
        checks.troubleIs(x, 2);
    }
}
