/** Promises 8 to 12: acts by hand, the state, vars, what is possible, the beginning. */
public final class HandTest {
    private static final Checks checks = new Checks();

    public static void main(String[] args) {
        pressing();
        conds();
        opening();
        closing();
        setting();
        faulting();
        waiting();
        back();
        torn();
        refusals();
        beginning();
        twoApps();
        checks.end();
    }

    private static void pressing() {
        checks.about("8 act: pressed");
        WindowHouse x = Checks.with("var x 3;window a{button b do add x 1;button c do open d;}window d{button e do close,add x 2;}");
        checks.stateIs(x, 0, 1, 0, 0, 4);
        checks.due("can(0, 2)", x.can(0, 2), 0);
        checks.due("act(0, 2) of another window", x.act(0, 2), -1);
        checks.troubleIs(x, 4);
        checks.acts(x, 0, 1);
        checks.stateIs(x, 0, 2, 1, 0, 4);
        checks.due("can(0, 0)", x.can(0, 0), 0);
        checks.due("act(0, 0) of a window below", x.act(0, 0), -1);
        checks.acts(x, 2);
        checks.stateIs(x, 0, 1, 0, 0, 4);
        checks.due("var(0, 0)", x.var(0, 0), 3);
        checks.due("act(0, 3): there is no such button", x.act(0, 3), -1);
        checks.troubleIs(x, 4);
        checks.due("can(0, 3)", x.can(0, 3), 0);
    }

    private static void conds() {
        checks.about("11 can: conds");
        WindowHouse x = Checks.with("var x 9;var y 1;window a{button e if x=4 do close;button l if x<4 do close;button g if x>4 do close;"
                + "button n if x<0 do close;button m if x>9 do close;button t if x>1 and x<8 and y=1 do close;"
                + "button up do add x 1;button y do add y 1;}");
        for (int value = 0; value <= 9; value++) {
            checks.due("var", x.var(0, 0), value);
            checks.due("=", x.can(0, 0), value == 4 ? 1 : 0);
            checks.due("<", x.can(0, 1), value < 4 ? 1 : 0);
            checks.due(">", x.can(0, 2), value > 4 ? 1 : 0);
            checks.due("< 0", x.can(0, 3), 0);
            checks.due("> 9", x.can(0, 4), 0);
            checks.due("all of three", x.can(0, 5), 0);
            checks.acts(x, 7);
            checks.due("all of three", x.can(0, 5), value > 1 && value < 8 ? 1 : 0);
            checks.due("state(0, 4)", x.state(0, 4), 5 + (value > 1 && value < 8 ? 1 : 0));
            checks.acts(x, 7, 6);
        }
    }

    private static void opening() {
        checks.about("III open");
        WindowHouse x = Checks.with("window a{button b do open c,open a,open c;}window c{button d do open a,open a;after 3 do close;}");
        checks.acts(x, 0);
        checks.stateIs(x, 0, 4, 1, 0, 4);
        checks.acts(x, 24, 1);
        checks.stateIs(x, 0, 5, 0, 0, 4);
        // five are open: an open does nothing, and the deeds go on
        checks.acts(x, 0);
        checks.stateIs(x, 0, 5, 0, 0, 4);
        checks.acts(x, 25);
        checks.stateIs(x, 0, 4, 1, 1);
    }

    private static void closing() {
        checks.about("III close");
        WindowHouse x = Checks.with("var x 9;window a{button b do close,close,add x 1;button c do open d,open d;}window d{button e do close;}");
        checks.acts(x, 0);
        checks.stateIs(x, 0, 1, 0, 0);
        checks.due("var", x.var(0, 0), 1);
        checks.acts(x, 1, 2);
        checks.stateIs(x, 0, 2, 1, 0);
        checks.acts(x, 2);
        checks.stateIs(x, 0, 1, 0, 0);
    }

    private static void setting() {
        checks.about("III set, add; 10 var");
        WindowHouse x = Checks.with("var x 2;kept y 9;var z 1;window a{button b do set x 2,set y 7;button c do add x 9;button d do add y 3;button e do add z 8,add z 1;}");
        checks.acts(x, 0);
        checks.due("x", x.var(0, 0), 2);
        checks.due("y", x.var(0, 1), 7);
        checks.due("z", x.var(0, 2), 0);
        checks.acts(x, 1, 2, 3);
        checks.due("x: 11 by 3", x.var(0, 0), 2);
        checks.due("y: 10 by 10", x.var(0, 1), 0);
        checks.due("z: 8 by 2, 1 by 2", x.var(0, 2), 1);
        for (int v : new int[] {-1, 3, 6, Integer.MIN_VALUE, Integer.MAX_VALUE}) {
            checks.due("var(0, " + v + ")", x.var(0, v), -1);
        }
        checks.due("var(1, 0)", x.var(1, 0), -1);
        checks.due("var(-1, 0)", x.var(-1, 0), -1);
        checks.due("var(2, 0)", x.var(2, 0), -1);
    }

    private static void faulting() {
        checks.about("III fault");
        WindowHouse x = Checks.with("kept k 9;var x 9;window a{button b do set k 5,set x 6,fault 20,set k 1;button c do set x 3;}");
        checks.acts(x, 1, 0);
        checks.stateIs(x, 20, 0, -1, -1, 1);
        checks.due("kept", x.var(0, 0), 5);
        checks.due("not kept", x.var(0, 1), 0);
        for (int act = 0; act < 26; act++) {
            checks.due("can(0, " + act + ")", x.can(0, act), 0);
            checks.due("act(0, " + act + ")", x.act(0, act), -1);
            checks.troubleIs(x, 4);
        }
        checks.due("can(0, 26)", x.can(0, 26), 1);
        checks.acts(x, 26);
        checks.stateIs(x, 0, 1, 0, 0, 4);
        checks.due("kept", x.var(0, 0), 5);
        // a timer can come to a fault too
        x = Checks.with("window a{after 1 do fault 3;}");
        checks.acts(x, 24);
        checks.stateIs(x, 3, 0, -1, -1, 1);
    }

    private static void waiting() {
        checks.about("III wait");
        WindowHouse x = Checks.with("var n 9;window a{button o do open b;after 3 do add n 1,open c;}window b{after 1 do add n 2;}window c{}");
        checks.acts(x, 24);
        checks.stateIs(x, 0, 1, 0, 1);
        checks.acts(x, 24);
        checks.stateIs(x, 0, 1, 0, 2);
        // the ticks of a window below stay
        checks.acts(x, 0);
        checks.stateIs(x, 0, 2, 1, 0);
        checks.acts(x, 24);
        checks.stateIs(x, 0, 2, 1, 0);
        checks.due("n", x.var(0, 0), 2);
        checks.acts(x, 25);
        checks.stateIs(x, 0, 1, 0, 2);
        checks.acts(x, 24);
        checks.stateIs(x, 0, 2, 2, 0);
        checks.due("n", x.var(0, 0), 3);
        // without a timer nothing comes of it
        checks.acts(x, 24);
        checks.stateIs(x, 0, 2, 2, 0);
        checks.acts(x, 25);
        checks.stateIs(x, 0, 1, 0, 0);
        // the ticks are 0 again ahead of the deeds, so a window that closes itself leaves none behind
        x = Checks.with("window a{button o do open b;after 9 do close;}window b{after 2 do close,open b;}");
        checks.acts(x, 24, 0, 24, 24);
        checks.stateIs(x, 0, 2, 1, 0);
        checks.acts(x, 25);
        checks.stateIs(x, 0, 1, 0, 1);
        checks.acts(x, 24, 24, 24, 24, 24, 24, 24);
        checks.stateIs(x, 0, 1, 0, 8);
        checks.acts(x, 24);
        checks.stateIs(x, 0, 1, 0, 0);
    }

    private static void back() {
        checks.about("III back");
        WindowHouse x = Checks.with("window a{button o do open b;}window b{}");
        checks.due("can(0, 25)", x.can(0, 25), 0);
        checks.due("act(0, 25)", x.act(0, 25), -1);
        checks.troubleIs(x, 4);
        checks.acts(x, 0);
        checks.due("can(0, 25)", x.can(0, 25), 1);
        checks.acts(x, 25);
        checks.stateIs(x, 0, 1, 0, 0);
    }

    private static void torn() {
        checks.about("III torn");
        WindowHouse x = Checks.with("var x 9;kept y 9;var z 9;kept q 9;window a{button b do set x 1,set y 2,set z 3,set q 4;button o do open c;after 5 do close;}window c{}");
        checks.acts(x, 24, 0, 1, 26);
        checks.stateIs(x, 0, 1, 0, 0);
        int[] due = {0, 2, 0, 4};
        for (int v = 0; v < 4; v++) {
            checks.due("var(0, " + v + ")", x.var(0, v), due[v]);
        }
    }

    private static void refusals() {
        checks.about("8, 9, 11 wrong numbers");
        WindowHouse x = Checks.with("window a{}");
        for (int act : new int[] {-1, 27, 100, Integer.MIN_VALUE, Integer.MAX_VALUE}) {
            checks.due("act(0, " + act + ")", x.act(0, act), -1);
            checks.troubleIs(x, 2);
            checks.due("can(0, " + act + ")", x.can(0, act), -1);
            for (int a : new int[] {-1, 1, 2, Integer.MIN_VALUE, Integer.MAX_VALUE}) {
                checks.due("act(" + a + ", " + act + ")", x.act(a, act), -1);
                checks.troubleIs(x, 1);
                checks.due("can(" + a + ", 26)", x.can(a, 26), -1);
            }
        }
        for (int what : new int[] {-1, 5, Integer.MIN_VALUE, Integer.MAX_VALUE}) {
            checks.due("state(0, " + what + ")", x.state(0, what), -1);
        }
        for (int a : new int[] {-1, 1, 2}) {
            for (int what = 0; what < 5; what++) {
                checks.due("state(" + a + ", " + what + ")", x.state(a, what), -1);
            }
        }
    }

    private static void beginning() {
        checks.about("12 begin");
        WindowHouse x = Checks.with("kept k 3;var x 3;window a{button b do set k 1,set x 1,open c;}window c{button d do fault 1;}");
        checks.acts(x, 0, 1);
        x.act(0, 99);
        checks.due("begin(0)", x.begin(0), true);
        checks.troubleIs(x, 0);
        checks.stateIs(x, 0, 1, 0, 0);
        checks.due("kept", x.var(0, 0), 0);
        checks.due("not kept", x.var(0, 1), 0);
        for (int a : new int[] {-1, 1, 2, Integer.MIN_VALUE, Integer.MAX_VALUE}) {
            checks.due("begin(" + a + ")", x.begin(a), false);
            checks.troubleIs(x, 1);
        }
    }

    private static void twoApps() {
        checks.about("two apps by hand");
        WindowHouse x = Checks.beside("var x 3;window a{button b do add x 1;}", "var x 3;window a{button b do add x 2;}");
        x.act(0, 0);
        x.act(1, 0);
        checks.due("var(0, 0)", x.var(0, 0), 1);
        checks.due("var(1, 0)", x.var(1, 0), 2);
        // neither the map, nor a row, nor both side by side change what is by hand
        x.map(0);
        x.push(0);
        x.tryRow(0);
        x.apart();
        checks.due("var(0, 0)", x.var(0, 0), 1);
        checks.due("var(1, 0)", x.var(1, 0), 2);
        x.begin(0);
        checks.due("var(0, 0)", x.var(0, 0), 0);
        checks.due("var(1, 0)", x.var(1, 0), 2);
    }
}
