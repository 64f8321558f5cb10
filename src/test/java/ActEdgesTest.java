/** The boundary cases of Terms III and of promises 8 to 12, sentence by sentence. */
public final class ActEdgesTest {
    private static final Checks checks = new Checks();

    public static void main(String[] args) {
        beginning();
        topmostAlone();
        condsHold();
        inOrder();
        waitWithTimer();
        waitWithout();
        ticksAreZeroAgain();
        backWithTwo();
        tornAlways();
        openOnTop();
        openOfFive();
        closeOfOne();
        setAndAdd();
        faultLeavesKept();
        actRefused();
        stateOfWhat();
        varOfNone();
        canOfAct();
        beginRefused();
        checks.end();
    }

    private static void varsAre(WindowHouse x, int... due) {
        for (int v = 0; v < due.length; v++) {
            checks.due("var(0, " + v + ")", x.var(0, v), due[v]);
        }
        checks.due("var(0, " + due.length + ")", x.var(0, due.length), -1);
    }

    private static void beginning() {
        checks.about("III: The BEGINNING: the first WINDOW alone, TICKS 0, all VARS 0");
        WindowHouse x = Checks.with("kept a 9;var b 9;window z{after 9 do close;}window a{}");
        checks.stateIs(x, 0, 1, 0, 0, 2);
        varsAre(x, 0, 0);
        x = Checks.with("window a{}");
        checks.stateIs(x, 0, 1, 0, 0, 2);
        varsAre(x);
    }

    private static void topmostAlone() {
        checks.about("III: possible if it is one of the topmost WINDOW");
        // BUTTONS 0, 1 | 2 | none | 3, 4
        WindowHouse x = Checks.with("window a{button a do open b;button b do open c;}window b{button a do open d;}window c{}"
                + "window d{button a do open c;button b do close;}");
        int[][] due = {{0, 1}, {2}, {3, 4}, {}};
        int[] next = {0, 2, 3};
        for (int k = 0; k < 4; k++) {
            for (int act = 0; act < 24; act++) {
                boolean possible = due[k].length > 0 && act >= due[k][0] && act <= due[k][due[k].length - 1];
                checks.due("can(0, " + act + ")", x.can(0, act), possible ? 1 : 0);
                if (!possible) {
                    checks.due("act(0, " + act + ")", x.act(0, act), -1);
                    checks.troubleIs(x, 4);
                }
            }
            checks.due("state(0, 4)", x.state(0, 4), due[k].length + (k == 0 ? 2 : 3));
            if (k < 3) {
                checks.acts(x, next[k]);
            }
        }
        checks.stateIs(x, 0, 4, 2, 0, 3);
    }

    private static void condsHold() {
        checks.about("III: and its CONDS hold");
        for (int number = 0; number <= 9; number++) {
            WindowHouse x = Checks.with("var x 9;window a{button e if x=" + number + " do close;button l if x<" + number + " do close;"
                    + "button g if x>" + number + " do close;button n do add x 1;}");
            for (int value = 0; value <= 9; value++) {
                checks.due(value + "=" + number, x.can(0, 0), value == number ? 1 : 0);
                checks.due(value + "<" + number, x.can(0, 1), value < number ? 1 : 0);
                checks.due(value + ">" + number, x.can(0, 2), value > number ? 1 : 0);
                checks.acts(x, 3);
            }
        }
        // beyond what the VAR can be: = and > never hold, < always does
        WindowHouse x = Checks.with("var x 1;window a{button e if x=2 do close;button l if x<2 do close;button g if x>1 do close;button n do add x 1;}");
        for (int k = 0; k < 3; k++) {
            checks.due("x=2", x.can(0, 0), 0);
            checks.due("x<2", x.can(0, 1), 1);
            checks.due("x>1", x.can(0, 2), 0);
            checks.acts(x, 3);
        }
        // all of them, the first, the second and the third
        x = Checks.with("var x 1;var y 1;var z 1;window a{button x do add x 1;button y do add y 1;button z do add z 1;"
                + "button b if x=1 and y=1 and z=1 do close;button c if x=1 and y=1 do close;}");
        for (int k = 0; k < 8; k++) {
            checks.due("of three", x.can(0, 3), k == 7 ? 1 : 0);
            checks.due("of two", x.can(0, 4), (k & 3) == 3 ? 1 : 0);
            // as one counts by twos
            checks.acts(x, 0);
            if ((k & 1) == 1) {
                checks.acts(x, 1);
            }
            if ((k & 3) == 3) {
                checks.acts(x, 2);
            }
        }
    }

    private static void inOrder() {
        checks.about("III: its DEEDS are done in order");
        WindowHouse x = Checks.with("var x 9;window a{button a do set x 3,add x 4,set x 5,add x 1;button b do close,open b;button c do open b,close;"
                + "button d do open b,open c,close,close;}window b{button e do close,open c,open b;}window c{}");
        checks.acts(x, 0);
        varsAre(x, 6);
        checks.acts(x, 2);
        checks.stateIs(x, 0, 1, 0, 0);
        checks.acts(x, 3);
        checks.stateIs(x, 0, 1, 0, 0);
        checks.acts(x, 1);
        checks.stateIs(x, 0, 2, 1, 0);
        checks.acts(x, 4);
        checks.stateIs(x, 0, 3, 1, 0);
        checks.acts(x, 25);
        checks.stateIs(x, 0, 2, 2, 0);
    }

    private static void waitWithTimer() {
        checks.about("III: its TICKS grow by one; when they are the TIMER's they are 0 again and its DEEDS are done");
        for (int ticks = 1; ticks <= 9; ticks++) {
            WindowHouse x = Checks.with("var x 9;window a{after " + ticks + " do add x 1;}");
            for (int k = 1; k <= 2 * ticks; k++) {
                checks.acts(x, 24);
                checks.due("state(0, 3)", x.state(0, 3), k % ticks);
                checks.due("var(0, 0)", x.var(0, 0), k / ticks);
            }
        }
        // of the topmost WINDOW alone: those below stand still
        WindowHouse x = Checks.with("window a{button o do open b;after 9 do close;}window b{button o do open a;after 9 do close;}");
        checks.acts(x, 24, 24, 24, 0, 24, 24, 1, 24);
        checks.stateIs(x, 0, 3, 0, 1);
        checks.acts(x, 25);
        checks.stateIs(x, 0, 2, 1, 2);
        checks.acts(x, 25);
        checks.stateIs(x, 0, 1, 0, 3);
    }

    private static void waitWithout() {
        checks.about("III: WAIT: possible with no FAULT");
        WindowHouse x = Checks.with("var x 9;window a{button f do fault 1;button b do open b;}window b{after 1 do add x 1;}");
        checks.acts(x, 24, 24, 24);
        checks.stateIs(x, 0, 1, 0, 0);
        varsAre(x, 0);
        checks.acts(x, 1, 24, 25, 24);
        varsAre(x, 1);
        checks.acts(x, 0);
        checks.due("can(0, 24)", x.can(0, 24), 0);
        checks.due("act(0, 24)", x.act(0, 24), -1);
        checks.troubleIs(x, 4);
        checks.stateIs(x, 1, 0, -1, -1, 1);
    }

    private static void ticksAreZeroAgain() {
        checks.about("III: TICKS are 0 again, then the DEEDS are done");
        // the WINDOW that opens another has no TICKS when it comes back
        WindowHouse x = Checks.with("window a{after 2 do open b;}window b{after 1 do close;}");
        checks.acts(x, 24, 24);
        checks.stateIs(x, 0, 2, 1, 0);
        checks.acts(x, 24);
        checks.stateIs(x, 0, 1, 0, 0);
        checks.acts(x, 24);
        checks.stateIs(x, 0, 1, 0, 1);
        // one that closes itself leaves those of the one below alone
        x = Checks.with("window a{button o do open b;after 5 do close;}window b{after 2 do close,close;}");
        checks.acts(x, 24, 24, 24, 24, 0, 24, 24);
        checks.stateIs(x, 0, 1, 0, 4);
        checks.acts(x, 24);
        checks.stateIs(x, 0, 1, 0, 0);
        // with a FAULT none are left
        x = Checks.with("window a{after 9 do fault 9;}");
        checks.acts(x, 24, 24, 24, 24, 24, 24, 24, 24, 24);
        checks.stateIs(x, 9, 0, -1, -1, 1);
        checks.acts(x, 26);
        checks.stateIs(x, 0, 1, 0, 0);
        // BACK, a press and TORN make no TICKS
        x = Checks.with("window a{button o do open a;button n do close;after 4 do close;}");
        checks.acts(x, 24, 1);
        checks.stateIs(x, 0, 1, 0, 1);
        checks.acts(x, 0);
        checks.stateIs(x, 0, 2, 0, 0);
        checks.acts(x, 24, 24, 25);
        checks.stateIs(x, 0, 1, 0, 1);
        checks.acts(x, 26);
        checks.stateIs(x, 0, 1, 0, 0);
    }

    private static void backWithTwo() {
        checks.about("III: BACK: possible with two WINDOWS or more and no FAULT: the topmost one closes");
        WindowHouse x = Checks.with("var v 9;window a{button o do open b,add v 1;}window b{button o do open a,add v 1;button f do fault 2;}");
        checks.due("can(0, 25) with one", x.can(0, 25), 0);
        checks.due("act(0, 25) with one", x.act(0, 25), -1);
        checks.troubleIs(x, 4);
        checks.stateIs(x, 0, 1, 0, 0, 3);
        checks.acts(x, 0, 1, 0, 1);
        for (int open = 5; open > 1; open--) {
            checks.stateIs(x, 0, open, (open - 1) % 2, 0);
            checks.acts(x, 25);
            varsAre(x, 4);
        }
        checks.stateIs(x, 0, 1, 0, 0, 3);
        checks.due("act(0, 25) with one again", x.act(0, 25), -1);
        checks.acts(x, 0, 2);
        checks.due("can(0, 25) with a fault", x.can(0, 25), 0);
        checks.due("act(0, 25) with a fault", x.act(0, 25), -1);
        checks.troubleIs(x, 4);
        checks.stateIs(x, 2, 0, -1, -1, 1);
    }

    private static void tornAlways() {
        checks.about("III: TORN: always possible: the BEGINNING, but VARS that are kept stay");
        WindowHouse x = Checks.with("kept a 9;var b 9;kept c 9;var d 9;kept e 9;var f 9;window a{button s do set a 9,set b 8,set c 7,open b;"
                + "button o do open a,open a,open a,open a;button f do fault 20;after 9 do close;}"
                + "window b{button s do set d 6,set e 5,set f 4,close;}");
        checks.acts(x, 26);
        checks.stateIs(x, 0, 1, 0, 0);
        varsAre(x, 0, 0, 0, 0, 0, 0);
        checks.acts(x, 0, 3, 24, 1, 24);
        varsAre(x, 9, 8, 7, 6, 5, 4);
        checks.stateIs(x, 0, 5, 0, 1);
        checks.acts(x, 26);
        checks.stateIs(x, 0, 1, 0, 0);
        varsAre(x, 9, 0, 7, 0, 5, 0);
        checks.acts(x, 0, 3, 2);
        checks.stateIs(x, 20, 0, -1, -1, 1);
        varsAre(x, 9, 0, 7, 0, 5, 0);
        checks.acts(x, 26);
        checks.stateIs(x, 0, 1, 0, 0);
        varsAre(x, 9, 0, 7, 0, 5, 0);
        checks.acts(x, 26, 26);
        varsAre(x, 9, 0, 7, 0, 5, 0);
        // none is kept, all are
        x = Checks.with("var a 9;window a{button s do set a 9;}");
        checks.acts(x, 0, 26);
        varsAre(x, 0);
        x = Checks.with("kept a 9;window a{button s do set a 9;}");
        checks.acts(x, 0, 26);
        varsAre(x, 9);
    }

    private static void openOnTop() {
        checks.about("III: open: that WINDOW comes on top, TICKS 0");
        // also the one that is on top already
        WindowHouse x = Checks.with("window a{button o do open a;after 9 do close;}");
        checks.acts(x, 24, 24, 0);
        checks.stateIs(x, 0, 2, 0, 0);
        checks.acts(x, 24, 25);
        checks.stateIs(x, 0, 1, 0, 2);
        // each of eight, also one that is told behind
        String told = Checks.repeated("window ?{button o do open h;}", 7) + "window h{" + Checks.repeated("button ? do open ?;", 8) + "}";
        for (int w = 0; w < 8; w++) {
            x = Checks.with(told);
            checks.acts(x, 0);
            checks.stateIs(x, 0, 2, 7, 0);
            checks.acts(x, 7 + w);
            checks.stateIs(x, 0, 3, w, 0);
            checks.acts(x, 25, 25);
            checks.stateIs(x, 0, 1, 0, 0);
        }
    }

    private static void openOfFive() {
        checks.about("III: open: (nothing if 5 are open)");
        WindowHouse x = Checks.with("var v 9;window a{button o do open b,add v 1;}window b{button o do open b,add v 1;button c do open a,open c,set v 9;"
                + "button d do close,open c,open a,add v 2;after 3 do open c,add v 1;}window c{}");
        checks.acts(x, 0);
        for (int open = 2; open < 5; open++) {
            checks.stateIs(x, 0, open, 1, 0);
            varsAre(x, open - 1);
            checks.acts(x, 1);
        }
        checks.stateIs(x, 0, 5, 1, 0);
        checks.acts(x, 24, 24, 1);
        // nothing: the topmost keeps its TICKS, and further DEEDS are done
        checks.stateIs(x, 0, 5, 1, 2);
        varsAre(x, 5);
        checks.acts(x, 2);
        checks.stateIs(x, 0, 5, 1, 2);
        varsAre(x, 9);
        checks.acts(x, 24);
        checks.stateIs(x, 0, 5, 1, 0);
        varsAre(x, 0);
        // behind a close there is room for one
        checks.acts(x, 3);
        checks.stateIs(x, 0, 5, 2, 0);
        varsAre(x, 2);
        checks.acts(x, 25, 25, 25, 25);
        checks.stateIs(x, 0, 1, 0, 0);
        // five at once, the fifth DEED of them all
        x = Checks.with("window a{button o do open b,open c,open b,open c;}window b{button o do open a;}window c{button o do open a;}");
        checks.acts(x, 0);
        checks.stateIs(x, 0, 5, 2, 0);
        checks.acts(x, 2);
        checks.stateIs(x, 0, 5, 2, 0);
    }

    private static void closeOfOne() {
        checks.about("III: close: the topmost goes (nothing if it is the only one)");
        WindowHouse x = Checks.with("var v 9;window a{button c do close,close,add v 1;button o do open b,open c;after 9 do close;}"
                + "window b{after 9 do close;}window c{button c do close;button d do close,close,close,close;button e do close,close,close,add v 1;}");
        checks.acts(x, 24, 24, 0);
        checks.stateIs(x, 0, 1, 0, 2);
        varsAre(x, 1);
        checks.acts(x, 1);
        checks.stateIs(x, 0, 3, 2, 0);
        checks.acts(x, 2);
        checks.stateIs(x, 0, 2, 1, 0);
        checks.acts(x, 25, 1, 3);
        checks.stateIs(x, 0, 1, 0, 2);
        checks.acts(x, 1, 4);
        checks.stateIs(x, 0, 1, 0, 2);
        varsAre(x, 2);
    }

    private static void setAndAdd() {
        checks.about("III: add: the VAR and NUMBER together, by the VAR's greatest and one more what is left");
        for (int most = 1; most <= 9; most++) {
            for (int value = 0; value <= most; value++) {
                StringBuilder text = new StringBuilder("kept z 9;var x " + most + ";var y 9;window a{button s do set z 9,set y 9,set x " + value + ";");
                for (int number = 1; number <= 9; number++) {
                    text.append("button ").append((char) ('a' + number)).append(" do add x ").append(number).append(';');
                }
                WindowHouse x = Checks.with(text.append('}').toString());
                for (int number = 1; number <= 9; number++) {
                    checks.acts(x, 0);
                    varsAre(x, 9, value, 9);
                    checks.acts(x, number);
                    // its neighbours stay
                    varsAre(x, 9, (value + number) % (most + 1), 9);
                }
            }
        }
        checks.about("III: set");
        WindowHouse x = Checks.with(Checks.repeated("var ? 9;", 6) + "window w{" + Checks.repeated("button ? do set ? 9;", 6)
                + Checks.repeated("button n? do set ? 0;", 6) + "}");
        for (int v = 0; v < 6; v++) {
            int[] due = new int[6];
            due[v] = 9;
            checks.acts(x, v);
            varsAre(x, due);
            checks.acts(x, 6 + v);
            varsAre(x, 0, 0, 0, 0, 0, 0);
        }
    }

    private static void faultLeavesKept() {
        checks.about("III: fault: no further DEED is done, and nothing else is left but the VARS that are kept");
        for (int number = 1; number <= 20; number++) {
            WindowHouse x = Checks.with("kept k 9;var v 9;window a{button o do open b,set k 3,set v 3;}window b{button f do set k 4,set v 4,fault " + number
                    + ",set k 5;after 2 do fault " + (21 - number) + ",add k 1;}");
            checks.acts(x, 0, 1);
            checks.stateIs(x, number, 0, -1, -1, 1);
            varsAre(x, 4, 0);
            checks.acts(x, 26, 0, 24, 24);
            checks.stateIs(x, 21 - number, 0, -1, -1, 1);
            varsAre(x, 3, 0);
            for (int act = 0; act < 26; act++) {
                checks.due("can(0, " + act + ")", x.can(0, act), 0);
            }
        }
        // the first of two
        WindowHouse x = Checks.with("window a{button f do fault 3,fault 4;}");
        checks.acts(x, 0);
        checks.stateIs(x, 3, 0, -1, -1, 1);
    }

    private static void actRefused() {
        checks.about("8: NONE: 1; 2 (ACT); 4");
        WindowHouse x = Checks.with("var v 9;window a{button b do add v 1;button c if v>5 do set v 9;after 5 do close;}");
        checks.acts(x, 0, 24);
        int[][] wrong = {{1, 0, 1}, {-1, 0, 1}, {2, 26, 1}, {1, 27, 1}, {2, -1, 1}, {0, -1, 2}, {0, 27, 2}, {0, Integer.MIN_VALUE, 2},
            {0, Integer.MAX_VALUE, 2}, {0, 100, 2}, {0, 126, 2}, {0, 1, 4}, {0, 2, 4}, {0, 23, 4}, {0, 25, 4}};
        for (int[] row : wrong) {
            checks.due("act(" + row[0] + ", " + row[1] + ")", x.act(row[0], row[1]), -1);
            checks.troubleIs(x, row[2]);
            checks.stateIs(x, 0, 1, 0, 1, 3);
            varsAre(x, 1);
        }
        checks.due("act(0, 26)", x.act(0, 26), 1);
        checks.troubleIs(x, 0);
    }

    private static void stateOfWhat() {
        checks.about("9: Of an APP's STATE what 0 .. 4; NONE");
        WindowHouse x = Checks.with("window a{" + Checks.repeated("button ? do fault 20;", 24) + "}");
        for (int what : new int[] {-1, 5, 6, Integer.MIN_VALUE, Integer.MAX_VALUE}) {
            checks.due("state(0, " + what + ")", x.state(0, what), -1);
        }
        checks.due("state(0, 4): all BUTTONS, WAIT and TORN", x.state(0, 4), 26);
        checks.acts(x, 23);
        checks.stateIs(x, 20, 0, -1, -1, 1);
        x = Checks.with("window a{" + Checks.repeated("button ? do open a;", 24) + "}");
        checks.acts(x, 23);
        checks.due("state(0, 4): all", x.state(0, 4), 27);
        checks.troubleIs(x, 0);
        x.push(-1);
        x.state(0, 9);
        x.state(9, 0);
        checks.troubleIs(x, 2);
    }

    private static void varOfNone() {
        checks.about("10: VAR v in an APP's STATE; NONE");
        for (int many = 0; many <= 6; many++) {
            WindowHouse x = Checks.with(Checks.repeated("var ? 9;", many) + "window a{}");
            for (int v : new int[] {-1, 0, 1, 2, 3, 4, 5, 6, 7, 15, 16, Integer.MIN_VALUE, Integer.MAX_VALUE}) {
                checks.due("var(0, " + v + ") of " + many, x.var(0, v), v >= 0 && v < many ? 0 : -1);
            }
            checks.due("var(1, 0)", x.var(1, 0), -1);
            checks.troubleIs(x, 0);
        }
    }

    private static void canOfAct() {
        checks.about("11: Whether an ACT is possible in an APP's STATE: 1, 0; NONE");
        WindowHouse x = Checks.with("window a{}");
        for (int act = -3; act < 130; act++) {
            int due = act < 0 || act > 26 ? -1 : act == 24 || act == 26 ? 1 : 0;
            checks.due("can(0, " + act + ")", x.can(0, act), due);
            checks.due("can(1, " + act + ")", x.can(1, act), -1);
        }
        checks.due("can(0, least)", x.can(0, Integer.MIN_VALUE), -1);
        checks.due("can(0, most)", x.can(0, Integer.MAX_VALUE), -1);
        // it is asked, not done
        x = Checks.with("var v 9;window a{button b do add v 1;after 2 do close;}");
        x.can(0, 0);
        x.can(0, 24);
        varsAre(x, 0);
        checks.stateIs(x, 0, 1, 0, 0);
    }

    private static void beginRefused() {
        checks.about("12: An APP's STATE is the BEGINNING: true; false (1)");
        WindowHouse x = Checks.beside("kept v 9;window a{button b do set v 9,open a;after 3 do fault 1;}", "kept v 9;window a{button b do set v 8;}");
        for (int a = 0; a < 2; a++) {
            x.act(a, 0);
        }
        checks.acts(x, 24);
        for (int a : new int[] {-1, 2, Integer.MIN_VALUE, Integer.MAX_VALUE}) {
            x.push(0);
            checks.due("begin(" + a + ")", x.begin(a), false);
            checks.troubleIs(x, 1);
            checks.stateIs(x, 0, 2, 0, 1);
            varsAre(x, 9);
        }
        checks.due("begin(0)", x.begin(0), true);
        checks.troubleIs(x, 0);
        checks.stateIs(x, 0, 1, 0, 0);
        varsAre(x, 0);
        checks.due("the other one stays", x.var(1, 0), 8);
        checks.due("begin(0) again", x.begin(0), true);
        checks.acts(x, 24, 24, 24);
        checks.stateIs(x, 1);
        checks.due("begin(0) from a fault", x.begin(0), true);
        checks.stateIs(x, 0, 1, 0, 0);
    }
}
