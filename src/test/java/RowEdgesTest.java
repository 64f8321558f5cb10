/** The boundary cases of promises 26 to 31, sentence by sentence. */
public final class RowEdgesTest {
    private static final Checks checks = new Checks();
    /** Its FAULT 7 is come to by 400 ACTS, of which none can be left out: 399 that count, and z. */
    private static final String FAR = "var a 9;var b 9;var c 3;window w{button n if a<9 do add a 1;button m if a=9 and b<9 do add a 1,add b 1;"
            + "button o if a=9 and b=9 and c<3 do add a 1,add b 1,add c 1;button z if a=9 and b=9 and c=3 do fault 7;button f do fault 8;}";

    public static void main(String[] args) {
        push();
        pushOf400();
        cut();
        cutOf400();
        tryRowRefused();
        tryRowOfNone();
        tryRowFirst();
        tryRowOf400();
        tried();
        shorterRefused();
        shorterCuts();
        shorterFromTheLast();
        shorterSameFault();
        shorterAgain();
        shorterEndsSooner();
        shorterOf400();
        shorterOfManyRounds();
        row();
        checks.end();
    }

    private static void push(WindowHouse x, int... acts) {
        for (int act : acts) {
            x.push(act);
        }
    }

    private static WindowHouse with(String text, int... acts) {
        WindowHouse x = Checks.with(text);
        push(x, acts);
        return x;
    }

    private static void shorterIs(String text, int[] acts, int... due) {
        WindowHouse x = with(text, acts);
        checks.due("shorter(0) " + text, x.shorter(0), due.length);
        checks.troubleIs(x, 0);
        checks.rowIs(x, due);
    }

    /** The ACT that leads from STATE k of FAR to the next. */
    private static int step(int k) {
        return k == 399 ? 3 : k % 100 == 99 ? 2 : k % 10 == 9 ? 1 : 0;
    }

    private static void push() {
        checks.about("26: An ACT comes behind THE ROW; NONE: 2 (ACT 0 .. 26)");
        WindowHouse x = new WindowHouse();
        for (int act = 0; act <= 26; act++) {
            checks.due("push(" + act + ")", x.push(act), act + 1);
            checks.troubleIs(x, 0);
        }
        for (int act : new int[] {-1, 27, 28, 100, 126, Integer.MIN_VALUE, Integer.MAX_VALUE}) {
            checks.due("push(" + act + ")", x.push(act), -1);
            checks.troubleIs(x, 2);
            checks.due("count(2)", x.count(2), 27);
        }
        for (int k = 0; k <= 26; k++) {
            checks.due("row(" + k + ")", Checks.rowAt(x, k), k);
        }
        // no APP is needed, and one that stands need not have the BUTTON
        x = Checks.with("window a{}");
        checks.due("push(23)", x.push(23), 1);
        checks.rowIs(x, 23);
    }

    private static void pushOf400() {
        checks.about("26: NONE: 4 (there are 400)");
        WindowHouse x = new WindowHouse();
        for (int k = 1; k <= 400; k++) {
            checks.due("push", x.push(k % 27), k);
        }
        checks.troubleIs(x, 0);
        checks.due("push(0)", x.push(0), -1);
        checks.troubleIs(x, 4);
        // of both the first told
        checks.due("push(27)", x.push(27), -1);
        checks.troubleIs(x, 2);
        checks.due("count(2)", x.count(2), 400);
        checks.due("row(399)", Checks.rowAt(x, 399), 400 % 27);
        checks.due("row(400)", Checks.rowAt(x, 400), Integer.MIN_VALUE);
        checks.due("cut(399)", x.cut(399), true);
        checks.due("push(5)", x.push(5), 400);
        checks.due("row(399)", Checks.rowAt(x, 399), 5);
        checks.due("push(5)", x.push(5), -1);
        checks.troubleIs(x, 4);
    }

    private static void cut() {
        checks.about("27: THE ROW is its first n: true; false (2)");
        WindowHouse x = new WindowHouse();
        checks.due("cut(0) of none", x.cut(0), true);
        checks.troubleIs(x, 0);
        for (int n : new int[] {1, -1, 400, Integer.MIN_VALUE, Integer.MAX_VALUE}) {
            checks.due("cut(" + n + ") of none", x.cut(n), false);
            checks.troubleIs(x, 2);
        }
        push(x, 3, 1, 4, 1, 5);
        for (int n : new int[] {-1, 6, 400, 401, Integer.MIN_VALUE, Integer.MAX_VALUE}) {
            checks.due("cut(" + n + ")", x.cut(n), false);
            checks.troubleIs(x, 2);
        }
        checks.rowIs(x, 3, 1, 4, 1, 5);
        checks.due("cut(5)", x.cut(5), true);
        checks.troubleIs(x, 0);
        checks.rowIs(x, 3, 1, 4, 1, 5);
        checks.due("cut(4)", x.cut(4), true);
        checks.rowIs(x, 3, 1, 4, 1);
        checks.due("cut(5): what was cut is gone", x.cut(5), false);
        checks.due("push(9)", x.push(9), 5);
        checks.rowIs(x, 3, 1, 4, 1, 9);
        checks.due("cut(1)", x.cut(1), true);
        checks.rowIs(x, 3);
        checks.due("cut(0)", x.cut(0), true);
        checks.rowIs(x);
    }

    private static void cutOf400() {
        checks.about("27: of 400");
        WindowHouse x = new WindowHouse();
        for (int k = 0; k < 400; k++) {
            x.push(k % 27);
        }
        checks.due("cut(401)", x.cut(401), false);
        checks.troubleIs(x, 2);
        checks.due("cut(400)", x.cut(400), true);
        checks.due("count(2)", x.count(2), 400);
        checks.due("cut(399)", x.cut(399), true);
        checks.due("count(2)", x.count(2), 399);
        checks.due("row(398)", Checks.rowAt(x, 398), 398 % 27);
        checks.due("row(399)", Checks.rowAt(x, 399), Integer.MIN_VALUE);
    }

    private static void tryRowRefused() {
        checks.about("28: NONE (1)");
        WindowHouse x = with("window a{button f do fault 1;}", 0);
        for (int a : new int[] {-1, 1, 2, Integer.MIN_VALUE, Integer.MAX_VALUE}) {
            x.push(24);
            checks.due("tryRow(" + a + ")", x.tryRow(a), -1);
            checks.troubleIs(x, 1);
            checks.due("tried()", x.tried(), -1);
        }
        checks.due("count(2)", x.count(2), 6);
        checks.due("tryRow(0)", x.tryRow(0), 1);
        checks.troubleIs(x, 0);
        checks.due("count(2): it stays whole", x.count(2), 6);
    }

    private static void tryRowOfNone() {
        checks.about("28: 0 if none");
        WindowHouse x = with("window a{button f do fault 1;}");
        checks.due("tryRow(0) of an empty row", x.tryRow(0), 0);
        checks.troubleIs(x, 0);
        checks.due("tried()", x.tried(), 0);
        // all are left out
        push(x, 1, 2, 23, 25);
        checks.due("tryRow(0)", x.tryRow(0), 0);
        checks.due("tried()", x.tried(), 4);
        push(x, 24, 26);
        checks.due("tryRow(0)", x.tryRow(0), 0);
        checks.due("tried()", x.tried(), 6);
    }

    private static void tryRowFirst() {
        checks.about("28: the FAULT to which it comes first (it ends there), ACTS that aren't possible left out");
        String text = "kept k 9;window a{button f do fault 1;button g do fault 20;button s do set k 9;button h if k=9 do fault 5;}";
        WindowHouse x = with(text, 0);
        checks.due("tryRow(0): by the first ACT", x.tryRow(0), 1);
        checks.due("tried()", x.tried(), 1);
        push(x, 26, 1);
        checks.due("tryRow(0): not the later one", x.tryRow(0), 1);
        checks.due("tried()", x.tried(), 1);
        x = with(text, 3, 25, 1, 0);
        checks.due("tryRow(0)", x.tryRow(0), 20);
        checks.due("tried(): those left out, too", x.tried(), 3);
        // from the BEGINNING, whatever was by hand or tried before, and by hand nothing is done
        x = with(text, 3);
        x.act(0, 2);
        checks.due("tryRow(0)", x.tryRow(0), 0);
        checks.due("var(0, 0)", x.var(0, 0), 9);
        x = with(text, 2, 26, 3);
        checks.due("tryRow(0): what is kept", x.tryRow(0), 5);
        checks.due("tryRow(0) again", x.tryRow(0), 5);
        checks.due("var(0, 0)", x.var(0, 0), 0);
        // one ROW on two APPS
        x = with(text, 0);
        Checks.tell(x, 1, "window a{button a do close;button f do fault 3;}");
        push(x, 1);
        checks.due("tryRow(0)", x.tryRow(0), 1);
        checks.due("tried()", x.tried(), 1);
        checks.due("tryRow(1)", x.tryRow(1), 3);
        checks.due("tried()", x.tried(), 2);
    }

    private static void tryRowOf400() {
        checks.about("28: of 400 ACTS");
        WindowHouse x = Checks.with(FAR);
        for (int k = 0; k < 399; k++) {
            x.push(step(k));
        }
        checks.due("tryRow(0) of 399", x.tryRow(0), 0);
        checks.due("tried()", x.tried(), 399);
        checks.due("push", x.push(3), 400);
        checks.due("tryRow(0) of 400", x.tryRow(0), 7);
        checks.due("tried()", x.tried(), 400);
        // one short of it
        x.cut(399);
        x.push(24);
        checks.due("tryRow(0)", x.tryRow(0), 0);
        checks.due("tried()", x.tried(), 400);
    }

    private static void tried() {
        checks.about("29: How many ACTS of THE ROW the latest tryRow() did; NONE ahead of any");
        WindowHouse x = new WindowHouse();
        checks.due("tried()", x.tried(), -1);
        push(x, 24, 24, 24);
        x.tryRow(0);
        checks.due("tried() behind a refused one", x.tried(), -1);
        Checks.tell(x, 0, "window a{button f do fault 1;after 3 do fault 2;}");
        checks.due("tried()", x.tried(), -1);
        checks.due("tryRow(0)", x.tryRow(0), 2);
        checks.due("tried()", x.tried(), 3);
        // it is of that call, whatever comes of the row
        x.shorter(0);
        x.cut(0);
        x.map(0);
        x.rowTo(1);
        Checks.tell(x, 0, "window a{}");
        checks.due("tried()", x.tried(), 3);
        x.cut(0);
        x.tryRow(0);
        checks.due("tried()", x.tried(), 0);
    }

    private static void shorterRefused() {
        checks.about("30: NONE: 1; 4 (it comes to none)");
        WindowHouse x = with("window a{button f do fault 1;}", 24, 26, 1, 24);
        for (int a : new int[] {-1, 1, 2, Integer.MIN_VALUE, Integer.MAX_VALUE}) {
            checks.due("shorter(" + a + ")", x.shorter(a), -1);
            checks.troubleIs(x, 1);
        }
        checks.due("shorter(0)", x.shorter(0), -1);
        checks.troubleIs(x, 4);
        checks.rowIs(x, 24, 26, 1, 24);
        x.cut(0);
        checks.due("shorter(0) of none", x.shorter(0), -1);
        checks.troubleIs(x, 4);
        checks.rowIs(x);
        // as tried on that APP
        Checks.tell(x, 1, "window a{}");
        x.push(0);
        checks.due("shorter(1)", x.shorter(1), -1);
        checks.troubleIs(x, 4);
        checks.due("shorter(0)", x.shorter(0), 1);
        checks.troubleIs(x, 0);
        checks.rowIs(x, 0);
    }

    private static void shorterCuts() {
        checks.about("30: cut behind that ACT");
        String text = "var v 1;window a{button f do fault 1;button g do fault 2;}";
        shorterIs(text, new int[] {0}, 0);
        shorterIs(text, new int[] {0, 26, 24, 0, 26, 1}, 0);
        shorterIs(text, new int[] {24, 25, 9, 1, 26, 0}, 1);
        shorterIs(text, new int[] {26, 26, 1}, 1);
    }

    private static void shorterFromTheLast() {
        checks.about("30: each ACT, from the last one to the first, is left out if what is left comes to the same FAULT");
        // either of two will do: the last one goes
        String either = "var v 1;window a{button p do set v 1;button q do set v 1;button f if v=1 do fault 1;}";
        shorterIs(either, new int[] {0, 1, 2}, 0, 2);
        shorterIs(either, new int[] {1, 0, 2}, 1, 2);
        shorterIs(either, new int[] {1, 0, 1, 0, 2}, 1, 2);
        // f wants 3 and more, g just 4: the last one that isn't needed goes
        String sum = "var v 4;window a{button one do add v 1;button two do add v 2;button f if v>2 do fault 1;button g if v=4 do fault 1;}";
        shorterIs(sum, new int[] {1, 0, 0, 2}, 1, 0, 2);
        shorterIs(sum, new int[] {0, 0, 1, 2}, 0, 1, 2);
        shorterIs(sum, new int[] {0, 1, 0, 3}, 0, 1, 0, 3);
        // those that aren't possible go, whatever they are
        shorterIs(sum, new int[] {23, 0, 25, 1, 3, 2}, 0, 1, 2);
    }

    private static void shorterSameFault() {
        checks.about("30: the same FAULT");
        // without b the row comes to 8 first
        String text = "var v 1;window a{button b do set v 1;button g if v=0 do fault 8;button f do fault 9;}";
        shorterIs(text, new int[] {0, 1, 2}, 2);
        // here the WAIT can't go, and without b it comes to 8: so b can't
        String way = "var v 1;window a{button b do open c;button f if v=1 do fault 9;after 1 do fault #;}window c{after 1 do set v 1,close;}";
        shorterIs(way.replace("#", "8"), new int[] {0, 24, 1}, 0, 24, 1);
        shorterIs(way.replace("#", "9"), new int[] {0, 24, 1}, 24);
    }

    private static void shorterAgain() {
        checks.about("30: again and again until none is");
        // u undoes s: only when s has gone it can go
        String two = "var q 1;window a{button s do set q 1;button u do set q 0;button f if q=0 do fault 1;}";
        shorterIs(two, new int[] {0, 1, 2}, 2);
        // each can go only when the one ahead of it has gone: four rounds
        String four = "var p 1;var q 1;var r 1;window a{button a do set p 1;button b do set p 0,set q 1;button c do set q 0,set r 1;button d do set r 0;"
                + "button f if p=0 and q=0 and r=0 do fault 1;}";
        shorterIs(four, new int[] {0, 1, 2, 3, 4}, 4);
        shorterIs(four, new int[] {0, 24, 1, 24, 2, 24, 3, 24, 4}, 4);
        // no single one can, though several could together
        String ring = "var v 3;window a{button n do add v 1;button f if v=2 do fault 1;}";
        shorterIs(ring, new int[] {0, 0, 0, 0, 0, 0, 1}, 0, 0, 0, 0, 0, 0, 1);
        shorterIs(ring, new int[] {0, 0, 1}, 0, 0, 1);
    }

    private static void shorterEndsSooner() {
        checks.about("30: the last ACT goes too, if a row comes to the FAULT ahead of it");
        // without o the WAIT itself comes to the FAULT, and g is no longer needed
        String text = "var y 1;window a{button o do open b;button g if y=1 do fault 1;after 1 do fault 1;}window b{after 1 do set y 1,close;}";
        shorterIs(text, new int[] {0, 24, 1}, 24);
        // and what is behind it, a TORN among it, does nothing more
        String torn = "kept y 1;window a{button o do open b;button g if y=1 do fault 1;after 1 do fault 1;}window b{after 1 do set y 1;}";
        shorterIs(torn, new int[] {0, 24, 26, 1}, 24);
        shorterIs(torn, new int[] {0, 24, 26, 26, 1}, 24);
        // when o has gone both WAITS are needed: the first can't go, though behind TORN all is as at first
        shorterIs(torn.replace("after 1 do fault", "after 2 do fault"), new int[] {24, 0, 24, 26, 1}, 24, 24);
    }

    private static void shorterOf400() {
        checks.about("30: of 400 ACTS");
        WindowHouse x = Checks.with(FAR);
        for (int k = 0; k < 400; k++) {
            x.push(step(k));
        }
        checks.due("shorter(0): none can go", x.shorter(0), 400);
        checks.troubleIs(x, 0);
        checks.due("count(2)", x.count(2), 400);
        for (int k = 0; k < 400; k += 21) {
            checks.due("row(" + k + ")", Checks.rowAt(x, k), step(k));
        }
        checks.due("row(399)", Checks.rowAt(x, 399), 3);
        x = Checks.with(FAR);
        for (int k = 0; k < 399; k++) {
            x.push(k % 3 == 0 ? 24 : step(k));
        }
        x.push(4);
        checks.due("shorter(0): all go but one", x.shorter(0), 1);
        checks.rowIs(x, 4);
    }

    private static void shorterOfManyRounds() {
        checks.about("30: rounds enough");
        // what goes in a round lets others go in the next
        String two = "var q 1;window a{button s do set q 1;button u do set q 0;button f if q=0 do fault 1;}";
        WindowHouse x = Checks.with(two);
        for (int k = 0; k < 199; k++) {
            push(x, 0, 1);
        }
        push(x, 24, 2);
        checks.due("count(2)", x.count(2), 400);
        checks.due("shorter(0)", x.shorter(0), 1);
        checks.rowIs(x, 2);
    }

    private static void row() {
        checks.about("31: ACT k of THE ROW. NoSuchElementException if there is none such");
        WindowHouse x = new WindowHouse();
        for (int k : new int[] {-1, 0, 1, 399, 400, Integer.MIN_VALUE, Integer.MAX_VALUE}) {
            checks.due("row(" + k + ") of none", Checks.rowAt(x, k), Integer.MIN_VALUE);
        }
        push(x, 26, 0);
        for (int k : new int[] {-1, 2, 3, 400, Integer.MIN_VALUE, Integer.MAX_VALUE}) {
            checks.due("row(" + k + ")", Checks.rowAt(x, k), Integer.MIN_VALUE);
        }
        checks.due("row(0)", Checks.rowAt(x, 0), 26);
        checks.due("row(1)", Checks.rowAt(x, 1), 0);
        checks.troubleIs(x, 0);
        // as told by the latest of rowTo(), push(), shorter(), apart()
        Checks.tell(x, 0, "var v 3;window a{button n do add v 1;button f if v=3 do fault 1;}");
        Checks.tell(x, 1, "var v 3;window a{button n do add v 1;button f if v=2 do fault 1;}");
        x.map(0);
        x.rowTo(2);
        checks.rowIs(x, 0, 0);
        push(x, 24, 0, 1);
        checks.rowIs(x, 0, 0, 24, 0, 1);
        x.shorter(0);
        checks.rowIs(x, 0, 0, 0, 1);
        x.apart();
        checks.rowIs(x, 0, 0);
        x.push(5);
        checks.rowIs(x, 0, 0, 5);
    }
}
