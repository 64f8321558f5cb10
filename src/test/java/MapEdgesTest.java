import java.util.Arrays;

/** The boundary cases of Terms IV and of promises 13 to 25, sentence by sentence. */
public final class MapEdgesTest {
    private static final Checks checks = new Checks();
    /** STATE k is the number k told by c, b and a; from each but the last one BUTTON leads to the next. */
    private static final String CHAIN = "var a 9;var b 9;var c 3;window w{button n if a<9 do add a 1;button m if a=9 and b<9 do add a 1,add b 1;"
            + "button o if a=9 and b=9 and c<3 do add a 1,add b 1,add c 1;#}";
    private static final String LONGEST = CHAIN.replace("#", "");
    /** One STATE more: behind the last one a FAULT. */
    private static final String TOO_LONG = CHAIN.replace("#", "button z if a=9 and b=9 and c=3 do fault 1;");
    /** BUTTON k leads to the FAULT k + 1, which is STATE k + 1. */
    private static final String FAULTS = faults();

    public static void main(String[] args) {
        mapOf400();
        mapOf401();
        mapRefused();
        mapInPlace();
        metInOrder();
        statesAreUnlike();
        rowByTheFirst();
        met();
        leads();
        rowTo();
        faultAt();
        pressedAt();
        never();
        holdsAt();
        stuck();
        stuckFarAway();
        least();
        kindsOf400();
        views();
        viewsOfButtons();
        sums();
        checks.end();
    }

    private static String faults() {
        StringBuilder text = new StringBuilder("window w{");
        for (int k = 0; k < 20; k++) {
            text.append("button ").append((char) ('a' + k)).append(" do fault ").append(k + 1).append(';');
        }
        return text.append('}').toString();
    }

    private static void mapOf400() {
        checks.about("I: a MAP of 400 states");
        WindowHouse x = Checks.with(LONGEST);
        checks.due("map(0)", x.map(0), 400);
        checks.troubleIs(x, 0);
        checks.due("count(0)", x.count(0), 400);
        checks.due("farthest()", x.farthest(), 399);
        checks.due("ways(): WAIT and TORN from each, a BUTTON from all but one", x.ways(), 2 * 400 + 399);
        checks.due("met(399, 3)", x.met(399, 3), 399);
        checks.due("met(399, 4)", x.met(399, 4), 2);
        checks.due("met(400, 0)", x.met(400, 0), -1);
        checks.due("leads(398, 0)", x.leads(398, 0), 399);
        checks.due("leads(399, 0)", x.leads(399, 0), -2);
        checks.due("leads(399, 24)", x.leads(399, 24), 399);
        checks.due("leads(399, 26)", x.leads(399, 26), 0);
        checks.due("leads(400, 26)", x.leads(400, 26), -1);
        // each of them goes through all 400, also where none is such
        checks.due("stuck(0)", x.stuck(0), -2);
        checks.due("faultAt(20)", x.faultAt(20), -2);
        checks.due("holdsAt(2, 9)", x.holdsAt(2, 9), -2);
        checks.due("never()", x.never(), 0);
        checks.due("views()", x.views(), 4);
        checks.due("least()", x.least(), 400);
        checks.due("rowTo(400)", x.rowTo(400), -1);
        checks.troubleIs(x, 1);
        checks.due("rowTo(399)", x.rowTo(399), 399);
        for (int k : new int[] {0, 8, 9, 10, 98, 99, 100, 199, 200, 298, 299, 300, 397, 398}) {
            checks.due("row(" + k + ")", Checks.rowAt(x, k), k % 100 == 99 ? 2 : k % 10 == 9 ? 1 : 0);
        }
        checks.due("row(399)", Checks.rowAt(x, 399), Integer.MIN_VALUE);
        checks.due("a row of 400", x.push(26), 400);
        checks.due("push", x.push(26), -1);
        checks.troubleIs(x, 4);
        // a WINDOW that is never topmost, a BUTTON that never can be pressed
        x = Checks.mapped(CHAIN.replace("#", "button z if a=8 and b>9 do close;") + "window v{}");
        checks.due("count(0)", x.count(0), 400);
        checks.due("stuck(0)", x.stuck(0), -2);
        checks.due("stuck(1)", x.stuck(1), 0);
        checks.due("pressedAt(3)", x.pressedAt(3), -2);
        checks.due("never()", x.never(), 1);
    }

    private static void mapOf401() {
        checks.about("13: 5 (no MAP then): more than 400 states");
        WindowHouse x = Checks.beside(TOO_LONG, "window a{}");
        x.act(0, 0);
        x.push(7);
        x.map(1);
        checks.due("map(0)", x.map(0), -1);
        checks.troubleIs(x, 5);
        checks.due("count(0)", x.count(0), 0);
        checks.due("count(1)", x.count(1), -1);
        checks.due("met(0, 3)", x.met(0, 3), -1);
        checks.due("met(0, 5)", x.met(0, 5), -1);
        checks.due("leads(0, 26)", x.leads(0, 26), -1);
        checks.troubleIs(x, 5);
        int[] got = {x.rowTo(0), x.faultAt(1), x.pressedAt(0), x.never(), x.holdsAt(0, 0), x.stuck(0), x.least(), x.views(), x.farthest(), x.ways()};
        checks.due("none of them answers", Arrays.stream(got).allMatch(one -> one == -1), true);
        checks.troubleIs(x, 6);
        checks.rowIs(x, 7);
        checks.due("var(0, 0): by hand it goes on", x.var(0, 0), 1);
        checks.due("map(0) again", x.map(0), -1);
        checks.troubleIs(x, 5);
        checks.due("map(1)", x.map(1), 1);
        checks.due("least()", x.least(), 1);
        // far more than 400
        x = Checks.with(Checks.repeated("var ? 9;", 6) + "window w{" + Checks.repeated("button ? do add ? 1;", 6) + "}");
        checks.due("map(0)", x.map(0), -1);
        checks.troubleIs(x, 5);
    }

    private static void mapRefused() {
        checks.about("13: NONE: 1");
        WindowHouse x = Checks.with(FAULTS);
        for (int a : new int[] {-1, 1, 2, Integer.MIN_VALUE, Integer.MAX_VALUE}) {
            x.push(0);
            checks.due("map(" + a + ") without a former one", x.map(a), -1);
            checks.troubleIs(x, 1);
            checks.due("count(1)", x.count(1), -1);
        }
        x.map(0);
        for (int a : new int[] {-1, 1, 2, Integer.MIN_VALUE, Integer.MAX_VALUE}) {
            checks.due("map(" + a + ") with a former one", x.map(a), -1);
            checks.troubleIs(x, 1);
            checks.due("count(0): that stays", x.count(0), 21);
            checks.due("count(1)", x.count(1), 0);
            checks.due("ways()", x.ways(), 22 + 20);
        }
    }

    private static void mapInPlace() {
        checks.about("13: (in place of the former one)");
        WindowHouse x = Checks.beside(LONGEST, "var a 1;var b 1;window w{button s do set a 1;button n if b=1 do fault 20;}window v{}");
        checks.due("map(0)", x.map(0), 400);
        checks.due("least()", x.least(), 400);
        checks.due("views()", x.views(), 4);
        checks.due("map(1)", x.map(1), 2);
        // nothing of the former is left behind the STATES of this one
        checks.due("least()", x.least(), 1);
        checks.due("views()", x.views(), 1);
        checks.due("met(1, 5)", x.met(1, 5), 0);
        checks.due("met(2, 0)", x.met(2, 0), -1);
        checks.due("leads(2, 26)", x.leads(2, 26), -1);
        checks.due("rowTo(2)", x.rowTo(2), -1);
        checks.due("holdsAt(0, 2)", x.holdsAt(0, 2), -2);
        checks.due("holdsAt(1, 1)", x.holdsAt(1, 1), -2);
        checks.due("holdsAt(2, 0)", x.holdsAt(2, 0), -1);
        checks.due("faultAt(20)", x.faultAt(20), -2);
        checks.due("pressedAt(1)", x.pressedAt(1), -2);
        checks.due("pressedAt(2)", x.pressedAt(2), -1);
        checks.due("never()", x.never(), 1);
        checks.due("stuck(0)", x.stuck(0), -2);
        checks.due("stuck(1)", x.stuck(1), 0);
        checks.due("farthest()", x.farthest(), 1);
        checks.due("ways()", x.ways(), 6);
        checks.due("count(1)", x.count(1), 1);
        checks.due("map(0)", x.map(0), 400);
        checks.due("views()", x.views(), 4);
        checks.due("least()", x.least(), 400);
        // VARS of a former MAP, at the very next place
        x = Checks.beside("var a 9;window w{button n do add a 1;}", "var a 9;window w{button n do set a 1;}");
        x.map(0);
        checks.due("holdsAt(0, 2)", x.holdsAt(0, 2), 2);
        x.map(1);
        checks.due("holdsAt(0, 2)", x.holdsAt(0, 2), -2);
    }

    private static void metInOrder() {
        checks.about("IV: STATES numbered as they are met: the BEGINNING 0; of each in order, all ACTS that are possible by number");
        WindowHouse x = Checks.mapped(FAULTS);
        checks.due("count(0)", x.count(0), 21);
        for (int s = 1; s <= 20; s++) {
            checks.due("met(" + s + ", 0)", x.met(s, 0), s);
            checks.due("leads(0, " + (s - 1) + ")", x.leads(0, s - 1), s);
        }
        // BUTTONS ahead of WAIT, WAIT ahead of BACK, that ahead of TORN
        x = Checks.mapped("kept k 1;window a{button z do open b;after 9 do close;}window b{button y do set k 1;after 2 do close;}");
        // 0 a | 1 b on a (z) | 2 a, 1 tick (WAIT) | 3 b on a, k (y) | 4 b on a, 1 tick (WAIT) | 5 b on a with 1 tick (z from 2) | ..
        int[][] due = {{0, 0, 1}, {0, 24, 2}, {0, 26, 0}, {1, 1, 3}, {1, 24, 4}, {1, 25, 0}, {1, 26, 0}, {2, 0, 5}, {2, 24, 6}, {2, 26, 0},
            {3, 1, 3}, {3, 24, 7}, {3, 25, 8}, {3, 26, 8}, {4, 1, 7}, {4, 24, 0}, {4, 25, 0}};
        for (int[] row : due) {
            checks.due("leads(" + row[0] + ", " + row[1] + ")", x.leads(row[0], row[1]), row[2]);
        }
        checks.due("met(8, 3)", x.met(8, 3), 3);
        checks.due("holdsAt(0, 1)", x.holdsAt(0, 1), 3);
        // two BUTTONS to one STATE: no second number
        x = Checks.mapped("var v 2;window a{button a do set v 2;button b do set v 2;button c do set v 1;}");
        checks.due("count(0)", x.count(0), 3);
        checks.due("leads(0, 1)", x.leads(0, 1), 1);
        checks.due("leads(0, 2)", x.leads(0, 2), 2);
    }

    private static void statesAreUnlike() {
        checks.about("III: A STATE: the open WINDOWS, each with TICKS, the VARS, or a FAULT");
        // the TICKS of each WINDOW below: 3 and 4 of them
        WindowHouse x = Checks.mapped("window a{button o do open b;after 3 do close;}window b{button o do open c;after 4 do close;}window c{}");
        checks.due("count(0)", x.count(0), 3 + 3 * 4 + 3 * 4);
        // which WINDOW is below
        x = Checks.mapped("window a{button b do open b;button c do open c;}window b{button d do open d;}window c{button d do open d;}window d{}");
        checks.due("count(0)", x.count(0), 1 + 2 + 2);
        // how many of the same one
        x = Checks.mapped("window a{button o do open a;}");
        checks.due("count(0)", x.count(0), 5);
        // each VAR
        for (int v = 0; v < 6; v++) {
            x = Checks.mapped(Checks.repeated("var ? 9;", 6) + "window w{button n do add " + (char) ('a' + v) + " 1;}");
            checks.due("count(0)", x.count(0), 10);
            checks.due("holdsAt(" + v + ", 9)", x.holdsAt(v, 9), 9);
        }
        // of a FAULT what is kept, and nothing else
        x = Checks.mapped("kept k 9;var v 9;window a{button n do add k 1;button v do set v 9;button f do fault 1;}");
        checks.due("count(0)", x.count(0), 10 * 2 + 10);
    }

    private static void rowByTheFirst() {
        checks.about("IV: A ROW to a STATE: by the first STATE and ACT that met it");
        WindowHouse x = Checks.mapped("var v 3;window a{button a if v=0 do set v 1;button b if v=0 do set v 2;button c if v=2 do set v 3;"
                + "button d if v=1 do set v 3;button e if v=1 do set v 3;}");
        checks.due("rowTo(3)", x.rowTo(3), 2);
        checks.rowIs(x, 0, 3);
        // by WAIT, by BACK, by TORN
        x = Checks.mapped("kept k 1;window a{button o do open b;after 3 do close;}window b{button s do set k 1;}");
        checks.due("rowTo(2)", x.rowTo(2), 1);
        checks.rowIs(x, 24);
        // 24, 0, 1, 25 lead to STATE 9 too, but by STATE 7, and STATE 6 comes first
        checks.due("leads(7, 25)", x.leads(7, 25), 9);
        checks.due("leads(6, 24)", x.leads(6, 24), 9);
        checks.due("rowTo(9)", x.rowTo(9), 4);
        checks.rowIs(x, 0, 1, 25, 24);
        x = Checks.mapped("kept k 1;window a{button f do set k 1,fault 1;}");
        checks.due("rowTo(2)", x.rowTo(2), 2);
        checks.rowIs(x, 0, 26);
        // the shortest, though a long way was told first
        x = Checks.mapped("var v 9;window a{button n if v<9 do add v 1;button j if v=0 do set v 9;}");
        checks.due("rowTo(2)", x.rowTo(2), 1);
        checks.rowIs(x, 1);
        checks.due("farthest()", x.farthest(), 8);
    }

    private static void met() {
        checks.about("14: Of STATE s of THE MAP what 0 .. 5; NONE");
        WindowHouse x = Checks.mapped(FAULTS);
        int[] first = {0, 1, 0, 0, 22, 0};
        int[] last = {20, 0, -1, 1, 1, 20};
        for (int what = 0; what < 6; what++) {
            checks.due("met(0, " + what + ")", x.met(0, what), first[what]);
            checks.due("met(20, " + what + ")", x.met(20, what), last[what]);
            for (int s : new int[] {-1, 21, 22, 399, 400, Integer.MIN_VALUE, Integer.MAX_VALUE}) {
                checks.due("met(" + s + ", " + what + ")", x.met(s, what), -1);
            }
        }
        for (int what : new int[] {-1, 6, 7, Integer.MIN_VALUE, Integer.MAX_VALUE}) {
            checks.due("met(0, " + what + ")", x.met(0, what), -1);
            checks.due("met(20, " + what + ")", x.met(20, what), -1);
        }
        checks.troubleIs(x, 0);
        x.push(-1);
        x.met(-1, 0);
        x.met(0, 5);
        checks.troubleIs(x, 2);
        x = Checks.mapped("window a{button o do open a,open a,open h,open g;}" + Checks.repeated("window x?{}", 5) + "window g{}window h{}");
        checks.due("met(1, 1): five are open", x.met(1, 1), 5);
        checks.due("met(1, 2)", x.met(1, 2), 6);
        checks.due("met(2, 2)", x.met(2, 2), 7);
    }

    private static void leads() {
        checks.about("15: Where an ACT leads from STATE s; -2 if it isn't possible; NONE for others");
        WindowHouse x = Checks.mapped(FAULTS);
        for (int act = 0; act <= 26; act++) {
            int due = act < 20 ? act + 1 : act == 24 || act == 26 ? 0 : -2;
            checks.due("leads(0, " + act + ")", x.leads(0, act), due);
            checks.due("leads(20, " + act + ")", x.leads(20, act), act == 26 ? 0 : -2);
            checks.due("leads(21, " + act + ")", x.leads(21, act), -1);
            checks.due("leads(-1, " + act + ")", x.leads(-1, act), -1);
        }
        for (int wrong : new int[] {-1, 27, 28, 53, 54, 126, Integer.MIN_VALUE, Integer.MAX_VALUE}) {
            checks.due("leads(0, " + wrong + ")", x.leads(0, wrong), -1);
            checks.due("leads(1, " + wrong + ")", x.leads(1, wrong), -1);
            checks.due("leads(" + wrong + ", 0)", x.leads(wrong, 0), -1);
        }
        checks.troubleIs(x, 0);
        x.push(-1);
        x.leads(0, 0);
        x.leads(0, 27);
        checks.troubleIs(x, 2);
    }

    private static void rowTo() {
        checks.about("16: The ROW to STATE s is THE ROW; NONE: 6; 1");
        WindowHouse x = Checks.with("var v 9;window a{button n do add v 1;}");
        x.push(24);
        x.push(25);
        for (int s : new int[] {-1, 0, 10, Integer.MAX_VALUE}) {
            checks.due("rowTo(" + s + ")", x.rowTo(s), -1);
            checks.troubleIs(x, 6);
        }
        x.map(0);
        for (int s : new int[] {-1, 10, 400, Integer.MIN_VALUE, Integer.MAX_VALUE}) {
            checks.due("rowTo(" + s + ")", x.rowTo(s), -1);
            checks.troubleIs(x, 1);
        }
        checks.rowIs(x, 24, 25);
        checks.due("rowTo(9)", x.rowTo(9), 9);
        checks.troubleIs(x, 0);
        checks.rowIs(x, 0, 0, 0, 0, 0, 0, 0, 0, 0);
        checks.due("rowTo(1)", x.rowTo(1), 1);
        checks.rowIs(x, 0);
        checks.due("rowTo(0)", x.rowTo(0), 0);
        checks.rowIs(x);
        checks.troubleIs(x, 0);
    }

    private static void faultAt() {
        checks.about("17: The first STATE of a FAULT (1 .. 20); -2 if none is met; NONE: 6; 2");
        WindowHouse x = Checks.with(FAULTS);
        checks.due("faultAt(0)", x.faultAt(0), -1);
        checks.troubleIs(x, 6);
        x.map(0);
        for (int number = 1; number <= 20; number++) {
            checks.due("faultAt(" + number + ")", x.faultAt(number), number);
            checks.troubleIs(x, 0);
        }
        for (int number : new int[] {0, 21, -1, Integer.MIN_VALUE, Integer.MAX_VALUE}) {
            checks.due("faultAt(" + number + ")", x.faultAt(number), -1);
            checks.troubleIs(x, 2);
        }
        x = Checks.mapped("window a{}");
        for (int number : new int[] {1, 20}) {
            checks.due("faultAt(" + number + ")", x.faultAt(number), -2);
            checks.troubleIs(x, 0);
        }
        // of several STATES of it the first, and by a TIMER alone
        x = Checks.mapped("kept k 2;window a{button n do add k 1;after 2 do fault 20;}");
        checks.due("faultAt(20)", x.met(x.faultAt(20), 3), 2);
        checks.due("faultAt(20)", x.faultAt(20), x.leads(x.leads(0, 24), 24));
    }

    private static void pressedAt() {
        checks.about("18: The first STATE in which a BUTTON can be pressed; -2 if none; NONE: 6; 1");
        WindowHouse x = Checks.with(LONGEST);
        checks.due("pressedAt(99)", x.pressedAt(99), -1);
        checks.troubleIs(x, 6);
        x.map(0);
        int[] due = {0, 9, 99};
        for (int b = 0; b < 3; b++) {
            checks.due("pressedAt(" + b + ")", x.pressedAt(b), due[b]);
            checks.troubleIs(x, 0);
        }
        for (int b : new int[] {-1, 3, 23, 24, 25, 26, 27, Integer.MIN_VALUE, Integer.MAX_VALUE}) {
            checks.due("pressedAt(" + b + ")", x.pressedAt(b), -1);
            checks.troubleIs(x, 1);
        }
        // in the last STATE of all, the last BUTTON of all, and one that can't be
        x = Checks.mapped("var v 9;window a{" + Checks.repeated("button ? if v>9 do close;", 22) + "button x if v<9 do add v 1;button z if v=9 do close;}");
        checks.due("pressedAt(23)", x.pressedAt(23), 9);
        checks.due("pressedAt(22)", x.pressedAt(22), 0);
        checks.due("pressedAt(21)", x.pressedAt(21), -2);
        checks.troubleIs(x, 0);
        checks.due("pressedAt(24)", x.pressedAt(24), -1);
        x = Checks.mapped("window a{}");
        checks.due("pressedAt(0) of none", x.pressedAt(0), -1);
        checks.troubleIs(x, 1);
    }

    private static void never() {
        checks.about("19: How many BUTTONS can never be pressed; NONE (6)");
        WindowHouse x = Checks.with("window a{}");
        checks.due("never()", x.never(), -1);
        checks.troubleIs(x, 6);
        x.map(0);
        checks.due("never() of none", x.never(), 0);
        checks.troubleIs(x, 0);
        x = Checks.mapped("window a{}window b{" + Checks.repeated("button ? do close;", 24) + "}");
        checks.due("never(): all", x.never(), 24);
        x = Checks.mapped("window a{" + Checks.repeated("button ? do close;", 24) + "}");
        checks.due("never(): none", x.never(), 0);
        x = Checks.mapped("var v 2;window a{button a if v=2 do close;button b if v=1 do set v 2;button c if v>2 do close;button d if v=2 and v=1 do close;after 3 do set v 1;}");
        checks.due("never()", x.never(), 2);
    }

    private static void holdsAt() {
        checks.about("20: The first STATE in which a VAR is v; -2; NONE: 6; 1 (VAR)");
        WindowHouse x = Checks.with(LONGEST);
        checks.due("holdsAt(9, 0)", x.holdsAt(9, 0), -1);
        checks.troubleIs(x, 6);
        x.map(0);
        for (int value = 0; value <= 9; value++) {
            checks.due("holdsAt(0, " + value + ")", x.holdsAt(0, value), value);
            checks.due("holdsAt(1, " + value + ")", x.holdsAt(1, value), 10 * value);
            checks.due("holdsAt(2, " + value + ")", x.holdsAt(2, value), value < 4 ? 100 * value : -2);
            checks.troubleIs(x, 0);
        }
        for (int value : new int[] {-1, 10, 15, 16, 256, Integer.MIN_VALUE, Integer.MAX_VALUE}) {
            checks.due("holdsAt(0, " + value + ")", x.holdsAt(0, value), -2);
            checks.troubleIs(x, 0);
        }
        for (int v : new int[] {-1, 3, 5, 6, 8, 16, Integer.MIN_VALUE, Integer.MAX_VALUE}) {
            checks.due("holdsAt(" + v + ", 0)", x.holdsAt(v, 0), -1);
            checks.troubleIs(x, 1);
        }
        // in a FAULT too, in which alone it is met here
        x = Checks.mapped("kept k 9;var v 9;window a{button f do set v 7,set k 7,fault 1;}");
        checks.due("holdsAt(0, 7)", x.holdsAt(0, 7), 1);
        checks.due("holdsAt(1, 7): only on the way, in no STATE", x.holdsAt(1, 7), -2);
        x = Checks.mapped("window a{}");
        checks.due("holdsAt(0, 0) of none", x.holdsAt(0, 0), -1);
        checks.troubleIs(x, 1);
    }

    private static void stuck() {
        checks.about("21: The first STATE from which, without TORN, no row leads to one in which WINDOW w is topmost; -2; NONE: 6; 1");
        WindowHouse x = Checks.with("window a{}");
        checks.due("stuck(9)", x.stuck(9), -1);
        checks.troubleIs(x, 6);
        x.map(0);
        checks.due("stuck(0): a row of no ACT leads there", x.stuck(0), -2);
        checks.troubleIs(x, 0);
        for (int w : new int[] {-1, 1, 7, 8, Integer.MIN_VALUE, Integer.MAX_VALUE}) {
            checks.due("stuck(" + w + ")", x.stuck(w), -1);
            checks.troubleIs(x, 1);
        }
        x = Checks.mapped(Checks.repeated("window ?{}", 8));
        for (int w = 0; w < 8; w++) {
            checks.due("stuck(" + w + ")", x.stuck(w), w == 0 ? -2 : 0);
        }
        // (A FAULT is such a one.)
        x = Checks.mapped(FAULTS);
        checks.due("stuck(0)", x.stuck(0), 1);
        // BACK and WAIT lead somewhere, TORN doesn't
        x = Checks.mapped("window a{button o do open b;}window b{}");
        checks.due("stuck(0): by BACK", x.stuck(0), -2);
        x = Checks.mapped("window a{after 2 do open b;}window b{}");
        checks.due("stuck(1): by WAIT", x.stuck(1), -2);
        x = Checks.mapped("var v 1;window a{button s do set v 1;button o if v=0 do open b;}window b{}");
        checks.due("stuck(1): by TORN alone", x.stuck(1), 1);
        // it is below, not topmost
        x = Checks.mapped("var v 1;window a{button o if v=0 do open b,set v 1;}window b{button n do open c,close;}window c{}");
        checks.due("stuck(2): opened and closed again by one ACT", x.stuck(2), 0);
        checks.due("stuck(1)", x.stuck(1), 2);
    }

    private static void stuckFarAway() {
        checks.about("21: rows of any length");
        String down = "var k 9;var f 1;window w{button n if k<9 and f=0 do add k 1;button r if f=0 do set f 1;button d if f=1 and k># do add k 9;"
                + "button z if f=1 and k=0 do open z;}window z{}";
        // from k 9 down to 0 again: each time to a STATE of a lower number
        WindowHouse x = Checks.mapped(down.replace("#", "0"));
        checks.due("count(0)", x.count(0), 21);
        checks.due("stuck(1)", x.stuck(1), -2);
        checks.due("stuck(0)", x.stuck(0), -2);
        // k 1 is the end of the way down, and STATE 1 has no other way
        x = Checks.mapped(down.replace("#", "1"));
        checks.due("stuck(1)", x.stuck(1), 1);
        // 300 STATES in one row, at whose end the WINDOW is
        String chain = CHAIN.replace("c<3", "c<2");
        x = Checks.mapped(chain.replace("#", "button z if a=9 and b=9 and c=2 do open z;") + "window z{}");
        checks.due("count(0)", x.count(0), 301);
        checks.due("stuck(1)", x.stuck(1), -2);
        x = Checks.mapped(chain.replace("#", "button z if a=9 and b=9 and c=1 do open z;") + "window z{}");
        checks.due("stuck(1): behind it there is no way", x.stuck(1), x.leads(x.pressedAt(3), 2));
    }

    private static void least() {
        checks.about("22: How many kinds LEAST has; NONE (6)");
        WindowHouse x = Checks.with("window a{}");
        checks.due("least()", x.least(), -1);
        checks.troubleIs(x, 6);
        x.map(0);
        checks.due("least()", x.least(), 1);
        checks.troubleIs(x, 0);
        checks.due("met(0, 5)", x.met(0, 5), 0);
        // 400 STATES of one kind
        x = Checks.mapped("var a 9;var b 9;var c 3;window w{button a do add a 1;button b do add b 1;button c do add c 1;}");
        checks.due("count(0)", x.count(0), 400);
        checks.due("least()", x.least(), 1);
        checks.due("met(399, 5)", x.met(399, 5), 0);
        // one VIEW: unlike by a WINDOW, by what it shows, by its BUTTONS, by the FAULT
        x = Checks.mapped("window a{button o do open b;button p do open c;}window b{}window c{}");
        checks.due("least()", x.least(), 3);
        x = Checks.mapped("var v 9;window a{show v;button n do add v 1;}");
        checks.due("least()", x.least(), 10);
        x = Checks.mapped("var v 1;window a{button n if v=0 do set v 1;button m if v=1 do set v 0;}");
        checks.due("least()", x.least(), 2);
        x = Checks.mapped(FAULTS);
        checks.due("least()", x.least(), 21);
        // the same possible ACTS: BACK
        x = Checks.mapped("window a{button o do open a;}");
        checks.due("least()", x.least(), 5);
        x = Checks.mapped("var v 1;window a{button o do open a,set v 1;button c do close,set v 1;}");
        checks.due("count(0)", x.count(0), 2 + 4);
        checks.due("least(): v is no matter", x.least(), 5);
        // and lead by each to one kind: by a BUTTON, by WAIT, by BACK, by TORN
        x = Checks.mapped("var v 3;window a{button n do add v 1;button o do open b;}window b{show v;}");
        checks.due("least(): by a BUTTON", x.least(), 8);
        x = Checks.mapped("var v 3;window a{button n do add v 1;after 1 do open b;}window b{show v;}");
        checks.due("least(): by WAIT", x.least(), 8);
        x = Checks.mapped("var v 3;window a{show v;button n do add v 1;button o do open b;}window b{}");
        checks.due("least(): by BACK", x.least(), 8);
        x = Checks.mapped("kept v 3;window a{show v;button n do add v 1;button f do fault 1;}");
        checks.due("least(): by TORN", x.least(), 8);
        // what is asked in between changes nothing
        checks.due("views()", x.views(), 5);
        checks.due("least() again", x.least(), 8);
        // kinds are numbered by their first STATES
        x = Checks.mapped("var v 2;var h 1;window a{show v;button h do add h 1;button n do add v 1;}");
        int[] due = {0, 0, 1, 1, 2, 2};
        for (int s = 0; s < 6; s++) {
            checks.due("met(" + s + ", 5)", x.met(s, 5), due[s]);
        }
        checks.due("least()", x.least(), 3);
        // asked behind views() of a MAP of other VIEWS
        x = Checks.beside(FAULTS, "var v 3;window a{button n do add v 1;button o do open b;}window b{show v;}");
        x.map(0);
        checks.due("views()", x.views(), 21);
        x.map(1);
        checks.due("least()", x.least(), 8);
        x.map(0);
        checks.due("views()", x.views(), 21);
        checks.due("least()", x.least(), 21);
        x = Checks.beside(FAULTS, "var v 9;window a{button n if v<9 do add v 1;}");
        x.map(0);
        checks.due("views()", x.views(), 21);
        x.map(1);
        checks.due("least(): by the first BUTTON alone", x.least(), 10);
    }

    private static void kindsOf400() {
        checks.about("22: 400 kinds, told apart by rows of up to 399 ACTS");
        WindowHouse x = Checks.mapped(LONGEST);
        checks.due("views()", x.views(), 4);
        checks.due("least()", x.least(), 400);
        for (int s = 0; s < 400; s += 7) {
            checks.due("met(" + s + ", 5)", x.met(s, 5), s);
        }
        checks.due("met(399, 5)", x.met(399, 5), 399);
        // by WAIT alone, round and round: what can't be told apart is of one kind
        x = Checks.mapped("var x 9;window a{after 8 do open b;}window b{after 8 do open c;}window c{after 8 do open d;}window d{after 8 do open e;}"
                + "window e{after 8 do add x 1,close,close,close;}");
        checks.due("count(0)", x.count(0), 10 * 5 * 8);
        checks.due("least()", x.least(), 5 * 8);
    }

    private static void views() {
        checks.about("23: How many unlike VIEWS there are; NONE (6)");
        WindowHouse x = Checks.with("window a{}");
        checks.due("views()", x.views(), -1);
        checks.troubleIs(x, 6);
        x.map(0);
        checks.due("views()", x.views(), 1);
        checks.troubleIs(x, 0);
        // each FAULT, each WINDOW, each shown number
        x = Checks.mapped(FAULTS);
        checks.due("views()", x.views(), 21);
        x = Checks.mapped("window a{" + Checks.repeated("button ? do open x?;", 7) + "}" + Checks.repeated("window x?{}", 7));
        checks.due("views()", x.views(), 8);
        for (int w = 1; w < 8; w++) {
            String name = "x" + (char) ('a' + w - 1);
            x = Checks.mapped("window a{button o do open " + name + ";}" + Checks.repeated("window x?{}", 7));
            checks.due("views(): WINDOW " + w, x.views(), 2);
            x = Checks.mapped("var v 7;window a{show v;button o do set v 7,open " + name + ";}" + Checks.repeated("window x?{show v;}", 7));
            checks.due("views(): WINDOW " + w, x.views(), 3);
        }
        x = Checks.mapped("var a 9;var b 9;window w{show a;show b;button a do add a 1;button b do add b 1;}");
        checks.due("views()", x.views(), 100);
        for (int v = 0; v < 6; v++) {
            char name = (char) ('a' + v);
            x = Checks.mapped(Checks.repeated("var ? 9;", 6) + "window w{" + Checks.repeated("show ?;", 6) + "button n do add " + name + " 1;}");
            checks.due("views(): shown at place " + v, x.views(), 10);
            x = Checks.mapped(Checks.repeated("var ? 9;", 6) + "window w{" + Checks.repeated("show ?;", 6).replace("show " + name + ";", "")
                    + "button n do add " + name + " 1;}");
            checks.due("views(): shown but VAR " + v, x.views(), 1);
        }
        // TICKS, WINDOWS below and VARS that aren't shown are not seen
        x = Checks.mapped("var v 1;window a{button o do open a;button n do add v 1;after 2 do close;}");
        checks.due("count(0)", x.count(0), 2 * (2 + 4 + 8 + 16 + 32));
        checks.due("views()", x.views(), 1);
        // nor what another WINDOW shows
        x = Checks.mapped("var v 9;window a{button n do add v 1;button o do open b;}window b{show v;}");
        checks.due("views()", x.views(), 11);
    }

    private static void viewsOfButtons() {
        checks.about("23: which of its BUTTONS can be pressed");
        String vars = "var v 9;var h 1;";
        for (int b = 0; b < 23; b++) {
            String name = "button " + (char) ('a' + b) + " ";
            String buttons = Checks.repeated("button ? do close;", 23).replace(name, name + "if h=1 ") + "button z do add h 1;";
            WindowHouse x = Checks.mapped(vars + "window w{show v;show v;show v;show v;show v;show v;" + buttons + "}");
            checks.due("views(): BUTTON " + b, x.views(), 2);
            checks.due("least(): BUTTON " + b, x.least(), 2);
        }
        // six SHOWS and 24 BUTTONS: the first shown number is seen
        WindowHouse x = Checks.mapped("var v 9;var h 9;window w{show v;show h;show h;show h;show h;show h;" + Checks.repeated("button ? do close;", 23)
                + "button z do add v 1;}");
        checks.due("views()", x.views(), 10);
    }

    private static void sums() {
        checks.about("24: How long the longest ROW is to a STATE; NONE (6)");
        WindowHouse x = Checks.with("window a{}");
        checks.due("farthest()", x.farthest(), -1);
        checks.troubleIs(x, 6);
        checks.about("25: How many ACTS of all STATES are possible; NONE (6)");
        checks.due("ways()", x.ways(), -1);
        checks.troubleIs(x, 6);
        x.map(0);
        checks.due("farthest()", x.farthest(), 0);
        checks.troubleIs(x, 0);
        x.push(-1);
        checks.due("ways()", x.ways(), 2);
        checks.troubleIs(x, 0);
        // all 24 BUTTONS and BACK with two and more
        x = Checks.mapped("window a{" + Checks.repeated("button ? do open a;", 24) + "}");
        checks.due("farthest()", x.farthest(), 4);
        checks.due("ways()", x.ways(), 26 + 4 * 27);
        // a FAULT has TORN alone
        x = Checks.mapped(FAULTS);
        checks.due("farthest()", x.farthest(), 1);
        checks.due("ways()", x.ways(), 22 + 20);
    }
}
