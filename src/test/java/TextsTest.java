/** Promises 1 to 7: a new object, the tape, texts and their faults, what is told of an app. */
public final class TextsTest {
    private static final Checks checks = new Checks();
    private static final int BLANKS = 0x20202020;

    public static void main(String[] args) {
        newObject();
        feeding();
        telling();
        faultAndWhere();
        form();
        tokens();
        unknownNames();
        twice();
        numbers();
        many();
        aboutApps();
        buttons();
        toldAgain();
        checks.end();
    }

    private static void newObject() {
        checks.about("1 a new object");
        WindowHouse x = new WindowHouse();
        checks.due("trouble()", x.trouble(), 0);
        checks.due("fault()", x.fault(), 0);
        checks.due("where()", x.where(), -1);
        checks.due("tried()", x.tried(), -1);
        int[] counts = {0, -1, 0, 0, 0};
        for (int what = 0; what < 5; what++) {
            checks.due("count(" + what + ")", x.count(what), counts[what]);
        }
        for (int a = -1; a < 3; a++) {
            checks.due("about(a, 0)", x.about(a, 0), -1);
            checks.due("state(a, 0)", x.state(a, 0), -1);
            checks.due("can(a, 26)", x.can(a, 26), -1);
        }
        checks.due("met(0, 0)", x.met(0, 0), -1);
        checks.due("leads(0, 26)", x.leads(0, 26), -1);
        checks.rowIs(x);
        checks.due("trouble()", x.trouble(), 0);
        checks.due("NONE", WindowHouse.NONE, -1);
    }

    private static void feeding() {
        checks.about("2 feed");
        WindowHouse x = new WindowHouse();
        for (int k = 1; k <= 40; k++) {
            checks.due("feed " + k, x.feed(BLANKS, BLANKS, BLANKS, BLANKS, BLANKS), 20 * k);
        }
        checks.due("feed beyond 800", x.feed(0, 0, 0, 0, 0), -1);
        checks.due("count(3)", x.count(3), 800);
        checks.due("the byte at the end", x.app(0, 800), -1);
        checks.due("where()", x.where(), 800);
        checks.due("feed again", x.feed(0, 0, 0, 0, 0), 20);
        // the highest byte first, and numbers below 0 too
        x = new WindowHouse();
        checks.due("feed", x.feed('w' << 24 | 'i' << 16 | 'n' << 8 | 'd', 'o' << 24 | 'w' << 16 | ' ' << 8 | 'a', '{' << 24 | '}' << 16, -1, -1), 20);
        checks.due("app(0, 10)", x.app(0, 10), 1);
        x.feed(BLANKS, 0xFF202020, BLANKS, BLANKS, BLANKS);
        checks.due("app(0, 20)", x.app(0, 20), -1);
        checks.due("where()", x.where(), 4);
        // a refused feed is no call that has a trouble, and a taken one neither
        checks.due("feed", x.feed(0, 0, 0, 0, 0), 20);
        checks.troubleIs(x, 3);
        checks.due("where()", x.where(), 4);
    }

    private static void telling() {
        checks.about("3 app");
        WindowHouse x = new WindowHouse();
        checks.due("tell", Checks.tell(x, 0, "window a { } window b { }"), 2);
        checks.troubleIs(x, 0);
        checks.due("count(3)", x.count(3), 0);
        Checks.feed(x, "window a { }");
        for (int a : new int[] {-1, 2, Integer.MIN_VALUE, Integer.MAX_VALUE}) {
            checks.due("app(" + a + ", 12)", x.app(a, 12), -1);
            checks.troubleIs(x, 1);
        }
        for (int n : new int[] {-1, 21, Integer.MIN_VALUE, Integer.MAX_VALUE}) {
            checks.due("app(1, " + n + ")", x.app(1, n), -1);
            checks.troubleIs(x, 2);
            checks.due("app(2, " + n + ")", x.app(2, n), -1);
            checks.troubleIs(x, 1);
        }
        checks.due("count(3)", x.count(3), 20);
        checks.due("fault()", x.fault(), 0);
        checks.due("app(1, 20)", x.app(1, 20), 1);
        checks.due("about(0, 0)", x.about(0, 0), 2);
        // only the first n bytes, and the tape is empty then
        Checks.feed(x, "window a { } window b { }");
        checks.due("app(1, 12)", x.app(1, 12), 1);
        checks.due("count(3)", x.count(3), 0);
        // what stands behind the n bytes is not looked at
        Checks.feed(x, "windowx");
        checks.due("app(1, 6)", x.app(1, 6), -1);
        checks.due("where()", x.where(), 6);
        Checks.feed(x, "var x 123");
        checks.due("app(1, 7)", x.app(1, 7), -1);
        checks.due("fault()", x.fault(), 1);
        checks.due("where()", x.where(), 7);
        Checks.feed(x, "window a{}}");
        checks.due("app(1, 10)", x.app(1, 10), 1);
        // the beginning by hand, and no map of it
        x = Checks.with("var x 2; window a { button b do add x 1; }");
        x.act(0, 0);
        x.map(0);
        checks.due("a fault", Checks.tell(x, 0, "window a { } ;"), -1);
        checks.due("count(3)", x.count(3), 0);
        checks.due("var(0, 0)", x.var(0, 0), 1);
        checks.due("count(0)", x.count(0), 3);
        Checks.tell(x, 1, "window a { }");
        checks.due("count(0)", x.count(0), 3);
        Checks.tell(x, 0, "var x 3; window a { button b do add x 1; }");
        checks.due("var(0, 0)", x.var(0, 0), 0);
        checks.due("count(0)", x.count(0), 0);
        checks.due("count(1)", x.count(1), -1);
    }

    private static void faultAndWhere() {
        checks.about("4 fault, 5 where");
        WindowHouse x = new WindowHouse();
        Checks.tell(x, 0, "window a { show q; }");
        checks.due("fault()", x.fault(), 2);
        checks.due("where()", x.where(), 16);
        checks.due("app(2, 0)", x.app(2, 0), -1);
        checks.due("where() behind a refusal by 1", x.where(), -1);
        checks.due("fault()", x.fault(), 2);
        checks.due("app(0, 1)", x.app(0, 1), -1);
        checks.due("fault()", x.fault(), 2);
        checks.due("app(0, 0)", x.app(0, 0), -1);
        checks.due("fault()", x.fault(), 1);
        checks.due("where()", x.where(), 0);
        x.can(0, 0);
        x.about(0, 0);
        x.met(0, 0);
        x.count(0);
        checks.due("where() behind calls that have no trouble", x.where(), 0);
        x.push(0);
        checks.due("where() behind one that wasn't refused", x.where(), -1);
        checks.due("fault()", x.fault(), 1);
        Checks.tell(x, 0, "window a { }");
        checks.due("fault()", x.fault(), 0);
        checks.due("where()", x.where(), -1);
    }

    private static void form() {
        checks.about("II 1 form");
        String[] whole = {
            "window a{}", " \n window\na\n{ } \n", "var x 1;kept y 9;window a{show x;show y;show x;}",
            "var x 9;window a{button b if x=0 and x<9 and x>0 do open a,close,set x 9,add x 9;button c do fault 20;after 9 do fault 1;}",
            "window window{button button do open window;}", "var var 1;window show{show var;button if if var=1 do close;}",
            "var x1;window a{button b do set x0;}", "var x 01;window a{button b if x=00 do add x 09;}",
            "window abcdefgh{}", "window a{after 1 do close,close,close,close;}",
            "var a 1;window a{button a do open a;}window b{button a do open b;}"};
        for (String text : whole) {
            checks.faultIs(0, text);
        }
        String[] spoilt = {
            "@", "   @", "@a", "@}", "window@", "window @{", "window a@", "window a @;", "window a{@", "window a{}@;",
            "window a{} @var x 1;", "@show x;", "var@", "var @1;", "var x@", "var x @;", "var x @y", "var x 1@", "var x 1 @,",
            "var x 1;@", "kept x 1;@", "kept x 1; @close", "var x 1; window a{show @;}", "var x 1; window a{show @1;}",
            "var x 1; window a{show x@}", "window a{button@", "window a{button @{", "window a{button b @open a;}",
            "window a{button b @close;}", "window a{button b do @;}", "window a{button b do @do;}", "window a{button b do close@}",
            "window a{button b do close @close;}", "window a{button b do close,@;}", "window a{button b do open @;}",
            "window a{button b do open @1;}", "window a{button b do fault @;}", "window a{button b do fault @x;}",
            "var x 1;window a{button b do set @1;}", "var x 1;window a{button b do set x @;}", "var x 1;window a{button b do add x @x;}",
            "var x 1;window a{button b if @= do close;}", "var x 1;window a{button b if x @1 do close;}",
            "var x 1;window a{button b if x = @x do close;}", "var x 1;window a{button b if x = 1 @, x = 1 do close;}",
            "var x 1;window a{button b if x = 1 and @= do close;}", "var x 1;window a{button b if x = 1 @close;}",
            "var x 1;window a{button b do close; @show x;}", "window a{after 1 do close; @button b do close;}",
            "window a{after 1 do close; @after 1 do close;}", "var x 1;window a{after 1 do close; @show x;}",
            "window a{after @do close;}", "window a{after 1 @close;}", "window a{after 1 do close@}", "window a{@window b{}}",
            "window a{@var x 1;}", "window a{@do}", "window a{} @a", "window a{} window @2"};
        for (String text : spoilt) {
            checks.faultIs(1, text);
        }
    }

    private static void tokens() {
        checks.about("II tokens");
        for (int sign = 0; sign < 256; sign++) {
            String text = "window a{" + (char) sign + "}";
            WindowHouse x = new WindowHouse();
            Checks.feed(x, text);
            boolean blank = sign == 32 || sign == 10;
            checks.due("app with sign " + sign, x.app(0, text.length()), blank ? 1 : -1);
            int place = sign == '}' ? 10 : 9;
            checks.due("where() with sign " + sign, x.where(), blank ? -1 : place);
        }
        checks.faultIs(1, "window @abcdefghi{}");
        checks.faultIs(1, "@windowabcd{}");
        checks.faultIs(1, "var x @111;window a{}");
        checks.faultIs(1, "var x @001;window a{}");
        checks.faultIs(1, "window a{button b do fault @200;}");
        // no blank is needed between letters and digits, and one parts a word in two
        checks.faultIs(0, "var x5;window a{button b if x=1do close;}");
        checks.faultIs(1, "@win dow a{}");
        checks.faultIs(1, "var x 1 @1;window a{}");
        for (String key : new String[] {"var", "kept", "window", "show", "button", "after", "if", "and", "do", "open", "close", "set", "add", "fault"}) {
            // a word is a key as a whole only: not with another first or last letter, nor a longer or a shorter one
            String[] nearly = {"x" + key.substring(1), key.substring(0, key.length() - 1) + "x", key + "x", key.substring(1)};
            for (String word : nearly) {
                String whole = " var x 1 ; kept y 1 ; window a { show x ; button b if x = 1 and x = 1 do open a , close , set x 1 , add x 1 ; after 1 do fault 1 ; } ";
                checks.faultIs(1, whole.replaceFirst(" " + key + " ", " @" + word + " "));
            }
        }
        checks.faultIs(1, "window a{} @#");
        checks.faultIs(1, "window a{} @A");
    }

    private static void unknownNames() {
        checks.about("II 2 no such");
        checks.faultIs(2, "window a{show @x;}");
        checks.faultIs(2, "var x 1;window a{button b if @y=1 do close;}");
        checks.faultIs(2, "var x 1;window a{button b if x=1 and @a=1 do close;}");
        checks.faultIs(2, "window a{button b do set @x 1;}");
        checks.faultIs(2, "window a{after 1 do add @x 99;}");
        // a fourth COND of no VAR: of one place the least number
        checks.faultIs(2, "var x 1;window a{button b if x=1 and x=1 and x=1 and @y=1 do close;}");
        // an open is judged behind the whole text
        checks.faultIs(2, "window a{button b do open @c;}window b{}");
        checks.faultIs(2, "window a{button b do close;after 1 do open @c;}window b{button a do open d;}");
        checks.faultIs(2, "window a{button b do open b,open @c,open d;}window b{}");
        checks.faultIs(1, "window a{button b do open c;}window b{} @;");
        checks.faultIs(4, "window a{button b do open c;}window b{button d do fault @0;}");
        checks.faultIs(3, "window a{button b do open c;}window @a{}");
        checks.faultIs(0, "window a{button b do open c;}window b{}window c{}");
        // a VAR's name is no WINDOW's
        checks.faultIs(2, "var x 1;window a{button b do open @x;}");
    }

    private static void twice() {
        checks.about("II 3 twice");
        checks.faultIs(3, "var x 1;kept @x 99;window a{}");
        checks.faultIs(3, "window a{}window @a{}");
        checks.faultIs(3, "window a{}window b{}window @a;");
        checks.faultIs(3, "window a{button b do close;button @b fly;}");
        checks.faultIs(3, "window a{}window c{button b do close;button d do close;button @b do close;}");
        checks.faultIs(0, "window a{button b do close;}window c{button b do close;}");
    }

    private static void numbers() {
        checks.about("II 4 beyond");
        for (int n : new int[] {0, 10, 99}) {
            checks.faultIs(4, "var x @" + n + ";window a{}");
            checks.faultIs(4, "kept x @" + n + " window a{}");
            checks.faultIs(4, "window a{after @" + n + " do close;}");
            checks.faultIs(4, "var x 1;window a{button b do add x @" + n + ";}");
        }
        checks.faultIs(4, "var x 1;window a{button b if x>@10 do close;}");
        checks.faultIs(4, "var x 9;window a{button b do set x @10;}");
        checks.faultIs(4, "var y 9;var x 4;window a{button b do set x @5;}");
        checks.faultIs(4, "window a{button b do fault @0;}");
        checks.faultIs(4, "window a{button b do fault @21;}");
        checks.faultIs(0, "var y 2;var x 4;window a{button b if x=9 do set x 4,set y 0,add y 9,fault 1;}");
    }

    private static void many() {
        checks.about("II 5 many");
        checks.faultIs(0, Checks.repeated("var ? 1;", 6) + "window a{}");
        checks.faultIs(5, Checks.repeated("var ? 1;", 6) + "@var a 1;window a{}");
        checks.faultIs(5, Checks.repeated("kept ? 1;", 6) + "@kept 1");
        checks.faultIs(1, Checks.repeated("kept ? 1;", 6) + "@show");
        checks.faultIs(0, Checks.repeated("window ?{}", 8));
        checks.faultIs(5, Checks.repeated("window ?{}", 8) + "@window a{}");
        checks.faultIs(1, Checks.repeated("window ?{}", 8) + "@var");
        checks.faultIs(0, "window a{" + Checks.repeated("button ? do close;", 24) + "}");
        checks.faultIs(5, "window a{" + Checks.repeated("button ? do close;", 24) + "@button a}");
        checks.faultIs(5, "window a{" + Checks.repeated("button ? do close;", 12) + "}window b{" + Checks.repeated("button ? do close;", 12) + "@button z do close;}");
        checks.faultIs(1, "window a{" + Checks.repeated("button ? do close;", 24) + "after 1 do close;@button");
        checks.faultIs(0, "var x 1;window a{" + Checks.repeated("show x;", 6) + "}window b{show x;}");
        checks.faultIs(5, "var x 1;window a{" + Checks.repeated("show x;", 6) + "@show y;}");
        checks.faultIs(1, "var x 1;window a{" + Checks.repeated("show x;", 6) + "button b do close;@show x;}");
        checks.faultIs(0, "var x 1;window a{button b if x=1 and x=1 and x=1 do close;}");
        checks.faultIs(5, "var x 1;window a{button b if x=1 and x=1 and x=1 and @x close;}");
        checks.faultIs(1, "var x 1;window a{button b if x=1 and x=1 and x=1 and @1 do close;}");
        checks.faultIs(5, "window a{button b do close,close,close,close,@fault 99;}");
        checks.faultIs(1, "window a{button b do close,close,close,close,@fly;}");
        checks.faultIs(1, "window a{button b do close,close,close,close,@;}");
        checks.faultIs(5, "window a{after 1 do close,close,close,close,@open;}");
    }

    private static void aboutApps() {
        checks.about("6 about");
        String text = "var x 1;kept y 2;kept z 3;window a{show x;show x;button b do close;}window c{show y;after 2 do close;}window d{}";
        WindowHouse x = new WindowHouse();
        Checks.tell(x, 1, text);
        int[] due = {3, 1, 3, 2, 3, 1};
        for (int what = 0; what < 6; what++) {
            checks.due("about(1, " + what + ")", x.about(1, what), due[what]);
            checks.due("about(0, " + what + ")", x.about(0, what), -1);
            checks.due("about(-1, " + what + ")", x.about(-1, what), -1);
            checks.due("about(2, " + what + ")", x.about(2, what), -1);
        }
        checks.due("about(1, 6)", x.about(1, 6), -1);
        checks.due("about(1, -1)", x.about(1, -1), -1);
        Checks.tell(x, 1, "window a{}");
        int[] none = {1, 0, 0, 0, 0, 0};
        for (int what = 0; what < 6; what++) {
            checks.due("about(1, " + what + ") of a smaller one", x.about(1, what), none[what]);
        }
    }

    private static void buttons() {
        checks.about("7 button");
        WindowHouse x = Checks.with("var x 1;window a{button b if x=1 and x<1 and x>0 do close;button c do close,close;}"
                + "window d{after 1 do close,close,close;}window e{button f if x=0 do close,close,close,close;}");
        int[][] due = {{0, 3, 1}, {0, 0, 2}, {2, 1, 4}};
        for (int b = 0; b < 3; b++) {
            for (int what = 0; what < 3; what++) {
                checks.due("button(0, " + b + ", " + what + ")", x.button(0, b, what), due[b][what]);
                checks.due("button(1, " + b + ", " + what + ")", x.button(1, b, what), -1);
            }
            checks.due("button(0, b, 3)", x.button(0, b, 3), -1);
            checks.due("button(0, b, -1)", x.button(0, b, -1), -1);
        }
        for (int b : new int[] {-1, 3, 24, Integer.MIN_VALUE, Integer.MAX_VALUE}) {
            checks.due("button(0, " + b + ", 0)", x.button(0, b, 0), -1);
        }
        checks.troubleIs(x, 0);
    }

    /** Nothing of a former app is left in a later one, whichever of the two it was, whole or not. */
    private static void toldAgain() {
        checks.about("3 app: told again");
        String large = "kept x 1;kept y 1;window a{show x;show y;button b if x=1 do close,close;button c if y=1 and x=1 do fault 1;after 2 do fault 2,close;}"
                + "window d{show y;button e if x=1 do close;after 1 do close;}";
        String spoilt = large + "window e{show x;button b if x=1 do close,close;after 3 do close;";
        String small = "var x 3;window a{button b do set x 1;}window d{button e do close;button f do open a;}";
        WindowHouse x = new WindowHouse();
        for (int k = 0; k < 6; k++) {
            Checks.tell(x, k % 2, k == 3 ? spoilt : large);
        }
        for (int k = 0; k < 3; k++) {
            int a = k % 2;
            checks.due("tell small", Checks.tell(x, a, small), 2);
            int[] about = {2, 3, 1, 0, 0, 0};
            for (int what = 0; what < 6; what++) {
                checks.due("about(a, " + what + ")", x.about(a, what), about[what]);
            }
            int[][] button = {{0, 0, 1}, {1, 0, 1}, {1, 0, 1}};
            for (int b = 0; b < 3; b++) {
                for (int what = 0; what < 3; what++) {
                    checks.due("button(a, " + b + ", " + what + ")", x.button(a, b, what), button[b][what]);
                }
            }
            checks.due("press", x.act(a, 0), 1);
            checks.due("var(a, 0)", x.var(a, 0), 1);
            checks.due("wait", x.act(a, 24), 1);
            checks.due("state(a, 3)", x.state(a, 3), 0);
            checks.due("torn", x.act(a, 26), 1);
            checks.due("var(a, 0)", x.var(a, 0), 0);
            checks.due("map(a)", x.map(a), 2);
            checks.due("views()", x.views(), 1);
            Checks.tell(x, a, "window a{}window b{}");
            checks.due("tell smallest", x.about(a, 1), 0);
            checks.due("map(a)", x.map(a), 1);
            checks.due("ways()", x.ways(), 2);
        }
    }
}
